/-! THE REFERENCE: points -/
theorem mM_comm (a b : Nat) : mM a b = mM b a := by unfold mM; rw [Nat.mul_comm]
theorem mM_ml (a b : Nat) : mM (a % pP) b = mM a b := by unfold mM; rw [Nat.mul_mod, Nat.mod_mod, ← Nat.mul_mod]
theorem mM_mr (a b : Nat) : mM a (b % pP) = mM a b := by rw [mM_comm, mM_ml, mM_comm]
theorem aM_l (a b : Nat) : aM (a % pP) b = aM a b := by unfold aM; rw [Nat.add_mod, Nat.mod_mod, ← Nat.add_mod]
theorem aM_r (a b : Nat) : aM a (b % pP) = aM a b := by unfold aM; rw [Nat.add_mod, Nat.mod_mod, ← Nat.add_mod]
theorem mM_assoc (a b c : Nat) : mM (mM a b) c = mM a (mM b c) := by
  show mM (a * b % pP) c = mM a (b * c % pP)
  rw [mM_ml, mM_mr]; unfold mM; rw [Nat.mul_assoc]
theorem rd_S (x y : Nat) : aM (aM (mM x (mM y y)) (mM x (mM y y))) (aM (mM x (mM y y)) (mM x (mM y y))) = dbS x y := by
  have e : mM x (aM (mM y y) (mM y y)) = aM (mM x (mM y y)) (mM x (mM y y)) := by
    show mM x ((mM y y + mM y y) % pP) = aM (x * mM y y % pP) (x * mM y y % pP)
    rw [mM_mr, aM_l, aM_r]
    unfold mM aM
    rw [← Nat.mul_add]
  unfold dbS
  rw [e]
theorem rd_E (y : Nat) : aM (aM (aM (mM (mM y y) (mM y y)) (mM (mM y y) (mM y y))) (aM (mM (mM y y) (mM y y)) (mM (mM y y) (mM y y)))) (aM (aM (mM (mM y y) (mM y y)) (mM (mM y y) (mM y y))) (aM (mM (mM y y) (mM y y)) (mM (mM y y) (mM y y)))) = dbE y := by
  have e : ∀ a, mM (aM a a) (aM a a) = aM (aM (mM a a) (mM a a)) (aM (mM a a) (mM a a)) := by
    intro a
    show mM ((a + a) % pP) ((a + a) % pP) = aM (aM (a * a % pP) (a * a % pP)) (aM (a * a % pP) (a * a % pP))
    rw [mM_ml, mM_mr, aM_l, aM_r]
    show _ = aM ((a * a + a * a) % pP) ((a * a + a * a) % pP)
    rw [aM_l, aM_r]
    unfold mM aM
    congr 1
    rw [Nat.mul_add, Nat.add_mul]
  unfold dbE
  rw [e]
/-- twice a point, none told by its last number -/
def rfD (P : Pt) : Pt := if P.2.2 = 0 then P else ptD P
/-- the sum of two points -/
def rfA (P Q : Pt) : Pt := if Q.2.2 = 0 then P else if P.2.2 = 0 then Q else if ptH P Q = 0 then (if ptK P Q = 0 then rfD P else (P.1, P.2.1, 0)) else (adX (adU P.1 Q.2.2) (ptH P Q) (ptK P Q), adY (adU P.1 Q.2.2) (adV P.2.1 Q.2.2) (ptH P Q) (ptK P Q), adZ P.2.2 Q.2.2 (ptH P Q))
theorem rd_V (y z : Nat) : mM y (mM (mM z z) z) = adV y z := by
  unfold adV
  rw [mM_comm (mM z z) z, ← mM_assoc]
theorem rd_K (y1 z1 y2 z2 : Nat) : sM (mM y2 (mM (mM z1 z1) z1)) (adV y1 z2) = adR y1 z1 y2 z2 := by
  rw [rd_V]
  rfl
set_option maxRecDepth 100000 in
set_option maxHeartbeats 800000 in
theorem c_pt_take307 {l : Launch} {G : ks_G} {d : Nat} {S : ks_S} {R : Nat → Nat} (hC : cvR S R) : ks_P l G yX14_take mX14_take (d + 1) [.ref 315, .ref 307] S (fun z S' => z = none ∧ ks_up S S' [316, 317, 318] ∧ cvR S' (va_up (va_up (va_up R 316 (R 308)) 317 (R 309)) 318 (R 310))) := by
  have p315_0 : S.2.2 315 = some (.inr (17, [.ref 316, .ref 317, .ref 318])) := hC.2.2.2.2.1
  have p307_0 : S.2.2 307 = some (.inr (17, [.ref 308, .ref 309, .ref 310])) := hC.2.2.1
  refine ks_of (by decide) rfl rfl (Nat.le_of_ble_eq_true rfl) ?_
  show ks_X l G mX14_take (d + 1) 0 [(0, .ref 315), (1, .ref 307)] [] S _
  refine ks_aload_n dX14_take_0 rfl rfl ?_
  refine ks_getf (T := TX14) (kf := 0) kx_1792 rfl in_X14 cl_X14 (by decide) p307_0 rfl dX14_take_1 rfl ?_
  refine ks_aload_n dX14_take_4 rfl rfl ?_
  refine ks_getf (T := TX14) (kf := 0) kx_1792 rfl in_X14 cl_X14 (by decide) p315_0 rfl dX14_take_5 rfl ?_
  refine ks_callS (n := 2) (M' := mX15_copy) (c_fc (d := d) (a := 308) (t := 316) hC (by decide) (by decide)) kx_2325 kx_1876 kx_33 kx_1877 (by decide +kernel) rfl (by decide) (Nat.le_of_ble_eq_true rfl) rfl dX14_take_8 rfl (fun z1 T1 y1 => ?_)
  obtain ⟨rfl, u1, c1⟩ := y1
  have p315_1 : T1.2.2 315 = some (.inr (17, [.ref 316, .ref 317, .ref 318])) := c1.2.2.2.2.1
  have p307_1 : T1.2.2 307 = some (.inr (17, [.ref 308, .ref 309, .ref 310])) := c1.2.2.1
  refine ks_aload_n dX14_take_11 rfl rfl ?_
  refine ks_getf (T := TX14) (kf := 1) kx_1794 rfl in_X14 cl_X14 (by decide) p307_1 rfl dX14_take_12 rfl ?_
  refine ks_aload_n dX14_take_15 rfl rfl ?_
  refine ks_getf (T := TX14) (kf := 1) kx_1794 rfl in_X14 cl_X14 (by decide) p315_1 rfl dX14_take_16 rfl ?_
  refine ks_callS (n := 2) (M' := mX15_copy) (c_fc (d := d) (a := 309) (t := 317) c1 (by decide) (by decide)) kx_2325 kx_1876 kx_33 kx_1877 (by decide +kernel) rfl (by decide) (Nat.le_of_ble_eq_true rfl) rfl dX14_take_19 rfl (fun z2 T2 y2 => ?_)
  obtain ⟨rfl, u2, c2⟩ := y2
  have p315_2 : T2.2.2 315 = some (.inr (17, [.ref 316, .ref 317, .ref 318])) := c2.2.2.2.2.1
  have p307_2 : T2.2.2 307 = some (.inr (17, [.ref 308, .ref 309, .ref 310])) := c2.2.2.1
  refine ks_aload_n dX14_take_22 rfl rfl ?_
  refine ks_getf (T := TX14) (kf := 2) kx_1796 rfl in_X14 cl_X14 (by decide) p307_2 rfl dX14_take_23 rfl ?_
  refine ks_aload_n dX14_take_26 rfl rfl ?_
  refine ks_getf (T := TX14) (kf := 2) kx_1796 rfl in_X14 cl_X14 (by decide) p315_2 rfl dX14_take_27 rfl ?_
  refine ks_callS (n := 2) (M' := mX15_copy) (c_fc (d := d) (a := 310) (t := 318) c2 (by decide) (by decide)) kx_2325 kx_1876 kx_33 kx_1877 (by decide +kernel) rfl (by decide) (Nat.le_of_ble_eq_true rfl) rfl dX14_take_30 rfl (fun z3 T3 y3 => ?_)
  obtain ⟨rfl, u3, c3⟩ := y3
  have p315_3 : T3.2.2 315 = some (.inr (17, [.ref 316, .ref 317, .ref 318])) := c3.2.2.2.2.1
  have p307_3 : T3.2.2 307 = some (.inr (17, [.ref 308, .ref 309, .ref 310])) := c3.2.2.1
  refine ks_ret rfl dX14_take_33 ?_
  exact ⟨rfl, ((u1.mono (by decide)).trans (u2.mono (by decide))).trans (u3.mono (by decide)), c3⟩
set_option maxRecDepth 100000 in
set_option maxHeartbeats 800000 in
theorem c_pt_take311 {l : Launch} {G : ks_G} {d : Nat} {S : ks_S} {R : Nat → Nat} (hC : cvR S R) : ks_P l G yX14_take mX14_take (d + 1) [.ref 319, .ref 311] S (fun z S' => z = none ∧ ks_up S S' [320, 321, 322] ∧ cvR S' (va_up (va_up (va_up R 320 (R 312)) 321 (R 313)) 322 (R 314))) := by
  have p319_0 : S.2.2 319 = some (.inr (17, [.ref 320, .ref 321, .ref 322])) := hC.2.2.2.2.2
  have p311_0 : S.2.2 311 = some (.inr (17, [.ref 312, .ref 313, .ref 314])) := hC.2.2.2.1
  refine ks_of (by decide) rfl rfl (Nat.le_of_ble_eq_true rfl) ?_
  show ks_X l G mX14_take (d + 1) 0 [(0, .ref 319), (1, .ref 311)] [] S _
  refine ks_aload_n dX14_take_0 rfl rfl ?_
  refine ks_getf (T := TX14) (kf := 0) kx_1792 rfl in_X14 cl_X14 (by decide) p311_0 rfl dX14_take_1 rfl ?_
  refine ks_aload_n dX14_take_4 rfl rfl ?_
  refine ks_getf (T := TX14) (kf := 0) kx_1792 rfl in_X14 cl_X14 (by decide) p319_0 rfl dX14_take_5 rfl ?_
  refine ks_callS (n := 2) (M' := mX15_copy) (c_fc (d := d) (a := 312) (t := 320) hC (by decide) (by decide)) kx_2325 kx_1876 kx_33 kx_1877 (by decide +kernel) rfl (by decide) (Nat.le_of_ble_eq_true rfl) rfl dX14_take_8 rfl (fun z1 T1 y1 => ?_)
  obtain ⟨rfl, u1, c1⟩ := y1
  have p319_1 : T1.2.2 319 = some (.inr (17, [.ref 320, .ref 321, .ref 322])) := c1.2.2.2.2.2
  have p311_1 : T1.2.2 311 = some (.inr (17, [.ref 312, .ref 313, .ref 314])) := c1.2.2.2.1
  refine ks_aload_n dX14_take_11 rfl rfl ?_
  refine ks_getf (T := TX14) (kf := 1) kx_1794 rfl in_X14 cl_X14 (by decide) p311_1 rfl dX14_take_12 rfl ?_
  refine ks_aload_n dX14_take_15 rfl rfl ?_
  refine ks_getf (T := TX14) (kf := 1) kx_1794 rfl in_X14 cl_X14 (by decide) p319_1 rfl dX14_take_16 rfl ?_
  refine ks_callS (n := 2) (M' := mX15_copy) (c_fc (d := d) (a := 313) (t := 321) c1 (by decide) (by decide)) kx_2325 kx_1876 kx_33 kx_1877 (by decide +kernel) rfl (by decide) (Nat.le_of_ble_eq_true rfl) rfl dX14_take_19 rfl (fun z2 T2 y2 => ?_)
  obtain ⟨rfl, u2, c2⟩ := y2
  have p319_2 : T2.2.2 319 = some (.inr (17, [.ref 320, .ref 321, .ref 322])) := c2.2.2.2.2.2
  have p311_2 : T2.2.2 311 = some (.inr (17, [.ref 312, .ref 313, .ref 314])) := c2.2.2.2.1
  refine ks_aload_n dX14_take_22 rfl rfl ?_
  refine ks_getf (T := TX14) (kf := 2) kx_1796 rfl in_X14 cl_X14 (by decide) p311_2 rfl dX14_take_23 rfl ?_
  refine ks_aload_n dX14_take_26 rfl rfl ?_
  refine ks_getf (T := TX14) (kf := 2) kx_1796 rfl in_X14 cl_X14 (by decide) p319_2 rfl dX14_take_27 rfl ?_
  refine ks_callS (n := 2) (M' := mX15_copy) (c_fc (d := d) (a := 314) (t := 322) c2 (by decide) (by decide)) kx_2325 kx_1876 kx_33 kx_1877 (by decide +kernel) rfl (by decide) (Nat.le_of_ble_eq_true rfl) rfl dX14_take_30 rfl (fun z3 T3 y3 => ?_)
  obtain ⟨rfl, u3, c3⟩ := y3
  have p319_3 : T3.2.2 319 = some (.inr (17, [.ref 320, .ref 321, .ref 322])) := c3.2.2.2.2.2
  have p311_3 : T3.2.2 311 = some (.inr (17, [.ref 312, .ref 313, .ref 314])) := c3.2.2.2.1
  refine ks_ret rfl dX14_take_33 ?_
  exact ⟨rfl, ((u1.mono (by decide)).trans (u2.mono (by decide))).trans (u3.mono (by decide)), c3⟩
set_option maxRecDepth 100000 in
set_option maxHeartbeats 800000 in
theorem c_pt_take319 {l : Launch} {G : ks_G} {d : Nat} {S : ks_S} {R : Nat → Nat} (hC : cvR S R) : ks_P l G yX14_take mX14_take (d + 1) [.ref 315, .ref 319] S (fun z S' => z = none ∧ ks_up S S' [316, 317, 318] ∧ cvR S' (va_up (va_up (va_up R 316 (R 320)) 317 (R 321)) 318 (R 322))) := by
  have p315_0 : S.2.2 315 = some (.inr (17, [.ref 316, .ref 317, .ref 318])) := hC.2.2.2.2.1
  have p319_0 : S.2.2 319 = some (.inr (17, [.ref 320, .ref 321, .ref 322])) := hC.2.2.2.2.2
  refine ks_of (by decide) rfl rfl (Nat.le_of_ble_eq_true rfl) ?_
  show ks_X l G mX14_take (d + 1) 0 [(0, .ref 315), (1, .ref 319)] [] S _
  refine ks_aload_n dX14_take_0 rfl rfl ?_
  refine ks_getf (T := TX14) (kf := 0) kx_1792 rfl in_X14 cl_X14 (by decide) p319_0 rfl dX14_take_1 rfl ?_
  refine ks_aload_n dX14_take_4 rfl rfl ?_
  refine ks_getf (T := TX14) (kf := 0) kx_1792 rfl in_X14 cl_X14 (by decide) p315_0 rfl dX14_take_5 rfl ?_
  refine ks_callS (n := 2) (M' := mX15_copy) (c_fc (d := d) (a := 320) (t := 316) hC (by decide) (by decide)) kx_2325 kx_1876 kx_33 kx_1877 (by decide +kernel) rfl (by decide) (Nat.le_of_ble_eq_true rfl) rfl dX14_take_8 rfl (fun z1 T1 y1 => ?_)
  obtain ⟨rfl, u1, c1⟩ := y1
  have p315_1 : T1.2.2 315 = some (.inr (17, [.ref 316, .ref 317, .ref 318])) := c1.2.2.2.2.1
  have p319_1 : T1.2.2 319 = some (.inr (17, [.ref 320, .ref 321, .ref 322])) := c1.2.2.2.2.2
  refine ks_aload_n dX14_take_11 rfl rfl ?_
  refine ks_getf (T := TX14) (kf := 1) kx_1794 rfl in_X14 cl_X14 (by decide) p319_1 rfl dX14_take_12 rfl ?_
  refine ks_aload_n dX14_take_15 rfl rfl ?_
  refine ks_getf (T := TX14) (kf := 1) kx_1794 rfl in_X14 cl_X14 (by decide) p315_1 rfl dX14_take_16 rfl ?_
  refine ks_callS (n := 2) (M' := mX15_copy) (c_fc (d := d) (a := 321) (t := 317) c1 (by decide) (by decide)) kx_2325 kx_1876 kx_33 kx_1877 (by decide +kernel) rfl (by decide) (Nat.le_of_ble_eq_true rfl) rfl dX14_take_19 rfl (fun z2 T2 y2 => ?_)
  obtain ⟨rfl, u2, c2⟩ := y2
  have p315_2 : T2.2.2 315 = some (.inr (17, [.ref 316, .ref 317, .ref 318])) := c2.2.2.2.2.1
  have p319_2 : T2.2.2 319 = some (.inr (17, [.ref 320, .ref 321, .ref 322])) := c2.2.2.2.2.2
  refine ks_aload_n dX14_take_22 rfl rfl ?_
  refine ks_getf (T := TX14) (kf := 2) kx_1796 rfl in_X14 cl_X14 (by decide) p319_2 rfl dX14_take_23 rfl ?_
  refine ks_aload_n dX14_take_26 rfl rfl ?_
  refine ks_getf (T := TX14) (kf := 2) kx_1796 rfl in_X14 cl_X14 (by decide) p315_2 rfl dX14_take_27 rfl ?_
  refine ks_callS (n := 2) (M' := mX15_copy) (c_fc (d := d) (a := 322) (t := 318) c2 (by decide) (by decide)) kx_2325 kx_1876 kx_33 kx_1877 (by decide +kernel) rfl (by decide) (Nat.le_of_ble_eq_true rfl) rfl dX14_take_30 rfl (fun z3 T3 y3 => ?_)
  obtain ⟨rfl, u3, c3⟩ := y3
  have p315_3 : T3.2.2 315 = some (.inr (17, [.ref 316, .ref 317, .ref 318])) := c3.2.2.2.2.1
  have p319_3 : T3.2.2 319 = some (.inr (17, [.ref 320, .ref 321, .ref 322])) := c3.2.2.2.2.2
  refine ks_ret rfl dX14_take_33 ?_
  exact ⟨rfl, ((u1.mono (by decide)).trans (u2.mono (by decide))).trans (u3.mono (by decide)), c3⟩
set_option maxRecDepth 100000 in
set_option maxHeartbeats 3200000 in
theorem c_md_doubled315 {l : Launch} {G : ks_G} {d : Nat} {S : ks_S} {V : Nat → Value} {R : Nat → Nat} (hO : S.2.2 290 = some (rfE V)) (hC : cvR S R) : ks_P l G yX16_doubled mX16_doubled (d + 2) [.ref 290, .ref 315] S (fun z S' => z = none ∧ ks_up S S' [552, 316, 317, 318, 323, 324, 325, 326, 327, 328] ∧ ∃ R', cvR S' R' ∧ ptR R' 316 = rfD (ptR R 316) ∧ ∀ k, k < 316 ∨ 318 < k → k < 323 → R' k = R k) := by
  have p315_0 : S.2.2 315 = some (.inr (17, [.ref 316, .ref 317, .ref 318])) := hC.2.2.2.2.1
  have r_0 := hC.1.1.1
  refine ks_of (by decide) rfl rfl (Nat.le_of_ble_eq_true rfl) ?_
  show ks_X l G mX16_doubled (d + 2) 0 [(0, .ref 290), (1, .ref 315)] [] S _
  refine ks_aload_n dX16_doubled_0 rfl rfl ?_
  refine ks_getN (T := TX14) (kf := 2) kx_1797 rfl in_X14 cl_X14 (by decide) p315_0 rfl dX16_doubled_1 rfl ?_
  refine ks_callS (n := 1) (M' := mX15_isZero) (c_fz (d := d + 1) (a := 318) hC (by decide)) kx_2306 kx_2307 kx_33 kx_2308 (by decide +kernel) rfl (by decide) (Nat.le_of_ble_eq_true rfl) rfl dX16_doubled_4 rfl (fun z9 T9 y9 => ?_)
  obtain ⟨rfl, hT9⟩ := y9
  obtain rfl := hT9.symm
  refine ks_if_eqZ (tgt := 11) dX16_doubled_7 (by decide) rfl (fun h9 => ?_) (fun h9 => ?_)
  · have p315_0 : S.2.2 315 = some (.inr (17, [.ref 316, .ref 317, .ref 318])) := hC.2.2.2.2.1
    have r_0 := hC.1.1.1
    refine ks_aload_n dX16_doubled_11 rfl rfl ?_
    refine ks_getf (T := TX16) (kf := 15) kx_2383 rfl in_X16 cl_X16 (by decide) hO rfl dX16_doubled_12 rfl ?_
    refine ks_aload_n dX16_doubled_15 rfl rfl ?_
    refine ks_getN (T := TX14) (kf := 1) kx_1795 rfl in_X14 cl_X14 (by decide) p315_0 rfl dX16_doubled_16 rfl ?_
    refine ks_aload_n dX16_doubled_19 rfl rfl ?_
    refine ks_getN (T := TX14) (kf := 1) kx_1795 rfl in_X14 cl_X14 (by decide) p315_0 rfl dX16_doubled_20 rfl ?_
    refine ks_aload_n dX16_doubled_23 rfl rfl ?_
    refine ks_getf (T := TX16) (kf := 22) kx_2390 rfl in_X16 cl_X16 (by decide) hO rfl dX16_doubled_24 rfl ?_
    refine ks_callV (n := 3) (M' := mX15_multiply) (c_fm (d := d) (a := 317) (b := 317) (t := 323) hC (by decide) (by decide) (by decide)) r_0 cl_X15 rfl kx_2285 kx_1922 kx_1923 kx_33 kx_1924 (by decide +kernel) rfl (by decide) (Nat.le_of_ble_eq_true rfl) rfl dX16_doubled_27 rfl (fun z_1 T_1 y_1 => ?_)
    obtain ⟨rfl, u_1, y_1⟩ := y_1
    obtain ⟨v_1, e_1⟩ : ∃ v, v = mM (R 317) (R 317) := ⟨_, rfl⟩
    have c_1 : cvR T_1 (va_up R 323 v_1) := by rw [e_1]; exact y_1
    have o_1 := u_1.at hO (by decide)
    clear y_1
    have p315_1 : T_1.2.2 315 = some (.inr (17, [.ref 316, .ref 317, .ref 318])) := c_1.2.2.2.2.1
    have r_1 := c_1.1.1.1
    refine ks_aload_n dX16_doubled_30 rfl rfl ?_
    refine ks_getf (T := TX16) (kf := 15) kx_2383 rfl in_X16 cl_X16 (by decide) o_1 rfl dX16_doubled_31 rfl ?_
    refine ks_aload_n dX16_doubled_34 rfl rfl ?_
    refine ks_getN (T := TX14) (kf := 0) kx_1793 rfl in_X14 cl_X14 (by decide) p315_1 rfl dX16_doubled_35 rfl ?_
    refine ks_aload_n dX16_doubled_38 rfl rfl ?_
    refine ks_getf (T := TX16) (kf := 22) kx_2390 rfl in_X16 cl_X16 (by decide) o_1 rfl dX16_doubled_39 rfl ?_
    refine ks_aload_n dX16_doubled_42 rfl rfl ?_
    refine ks_getf (T := TX16) (kf := 23) kx_2391 rfl in_X16 cl_X16 (by decide) o_1 rfl dX16_doubled_43 rfl ?_
    refine ks_callV (n := 3) (M' := mX15_multiply) (c_fm (d := d) (a := 316) (b := 323) (t := 324) c_1 (by decide) (by decide) (by decide)) r_1 cl_X15 rfl kx_2285 kx_1922 kx_1923 kx_33 kx_1924 (by decide +kernel) rfl (by decide) (Nat.le_of_ble_eq_true rfl) rfl dX16_doubled_46 rfl (fun z_2 T_2 y_2 => ?_)
    obtain ⟨rfl, u_2, y_2⟩ := y_2
    obtain ⟨v_2, e_2⟩ : ∃ v, v = mM (R 316) v_1 := ⟨_, rfl⟩
    have c_2 : cvR T_2 (va_up (va_up R 323 v_1) 324 v_2) := by rw [e_2]; exact y_2
    have o_2 := u_2.at o_1 (by decide)
    clear y_2
    have p315_2 : T_2.2.2 315 = some (.inr (17, [.ref 316, .ref 317, .ref 318])) := c_2.2.2.2.2.1
    have r_2 := c_2.1.1.1
    refine ks_aload_n dX16_doubled_49 rfl rfl ?_
    refine ks_getf (T := TX16) (kf := 15) kx_2383 rfl in_X16 cl_X16 (by decide) o_2 rfl dX16_doubled_50 rfl ?_
    refine ks_aload_n dX16_doubled_53 rfl rfl ?_
    refine ks_getf (T := TX16) (kf := 23) kx_2391 rfl in_X16 cl_X16 (by decide) o_2 rfl dX16_doubled_54 rfl ?_
    refine ks_aload_n dX16_doubled_57 rfl rfl ?_
    refine ks_getf (T := TX16) (kf := 23) kx_2391 rfl in_X16 cl_X16 (by decide) o_2 rfl dX16_doubled_58 rfl ?_
    refine ks_aload_n dX16_doubled_61 rfl rfl ?_
    refine ks_getf (T := TX16) (kf := 23) kx_2391 rfl in_X16 cl_X16 (by decide) o_2 rfl dX16_doubled_62 rfl ?_
    refine ks_callV (n := 3) (M' := mX15_add) (c_fa (d := d) (a := 324) (b := 324) (t := 324) c_2 (by decide) (by decide) (by decide)) r_2 cl_X15 rfl kx_2286 kx_1862 kx_1863 kx_33 kx_1864 (by decide +kernel) rfl (by decide) (Nat.le_of_ble_eq_true rfl) rfl dX16_doubled_65 rfl (fun z_3 T_3 y_3 => ?_)
    obtain ⟨rfl, u_3, y_3⟩ := y_3
    obtain ⟨v_3, e_3⟩ : ∃ v, v = aM v_2 v_2 := ⟨_, rfl⟩
    have c_3 : cvR T_3 (va_up (va_up (va_up R 323 v_1) 324 v_2) 324 v_3) := by rw [e_3]; exact y_3
    have o_3 := u_3.at o_2 (by decide)
    clear y_3
    have p315_3 : T_3.2.2 315 = some (.inr (17, [.ref 316, .ref 317, .ref 318])) := c_3.2.2.2.2.1
    have r_3 := c_3.1.1.1
    refine ks_aload_n dX16_doubled_68 rfl rfl ?_
    refine ks_getf (T := TX16) (kf := 15) kx_2383 rfl in_X16 cl_X16 (by decide) o_3 rfl dX16_doubled_69 rfl ?_
    refine ks_aload_n dX16_doubled_72 rfl rfl ?_
    refine ks_getf (T := TX16) (kf := 23) kx_2391 rfl in_X16 cl_X16 (by decide) o_3 rfl dX16_doubled_73 rfl ?_
    refine ks_aload_n dX16_doubled_76 rfl rfl ?_
    refine ks_getf (T := TX16) (kf := 23) kx_2391 rfl in_X16 cl_X16 (by decide) o_3 rfl dX16_doubled_77 rfl ?_
    refine ks_aload_n dX16_doubled_80 rfl rfl ?_
    refine ks_getf (T := TX16) (kf := 23) kx_2391 rfl in_X16 cl_X16 (by decide) o_3 rfl dX16_doubled_81 rfl ?_
    refine ks_callV (n := 3) (M' := mX15_add) (c_fa (d := d) (a := 324) (b := 324) (t := 324) c_3 (by decide) (by decide) (by decide)) r_3 cl_X15 rfl kx_2286 kx_1862 kx_1863 kx_33 kx_1864 (by decide +kernel) rfl (by decide) (Nat.le_of_ble_eq_true rfl) rfl dX16_doubled_84 rfl (fun z_4 T_4 y_4 => ?_)
    obtain ⟨rfl, u_4, y_4⟩ := y_4
    obtain ⟨v_4, e_4⟩ : ∃ v, v = aM v_3 v_3 := ⟨_, rfl⟩
    have c_4 : cvR T_4 (va_up (va_up (va_up (va_up R 323 v_1) 324 v_2) 324 v_3) 324 v_4) := by rw [e_4]; exact y_4
    have o_4 := u_4.at o_3 (by decide)
    clear y_4
    have p315_4 : T_4.2.2 315 = some (.inr (17, [.ref 316, .ref 317, .ref 318])) := c_4.2.2.2.2.1
    have r_4 := c_4.1.1.1
    refine ks_aload_n dX16_doubled_87 rfl rfl ?_
    refine ks_getf (T := TX16) (kf := 15) kx_2383 rfl in_X16 cl_X16 (by decide) o_4 rfl dX16_doubled_88 rfl ?_
    refine ks_aload_n dX16_doubled_91 rfl rfl ?_
    refine ks_getf (T := TX16) (kf := 22) kx_2390 rfl in_X16 cl_X16 (by decide) o_4 rfl dX16_doubled_92 rfl ?_
    refine ks_aload_n dX16_doubled_95 rfl rfl ?_
    refine ks_getf (T := TX16) (kf := 22) kx_2390 rfl in_X16 cl_X16 (by decide) o_4 rfl dX16_doubled_96 rfl ?_
    refine ks_aload_n dX16_doubled_99 rfl rfl ?_
    refine ks_getf (T := TX16) (kf := 24) kx_2392 rfl in_X16 cl_X16 (by decide) o_4 rfl dX16_doubled_100 rfl ?_
    refine ks_callV (n := 3) (M' := mX15_multiply) (c_fm (d := d) (a := 323) (b := 323) (t := 325) c_4 (by decide) (by decide) (by decide)) r_4 cl_X15 rfl kx_2285 kx_1922 kx_1923 kx_33 kx_1924 (by decide +kernel) rfl (by decide) (Nat.le_of_ble_eq_true rfl) rfl dX16_doubled_103 rfl (fun z_5 T_5 y_5 => ?_)
    obtain ⟨rfl, u_5, y_5⟩ := y_5
    obtain ⟨v_5, e_5⟩ : ∃ v, v = mM v_1 v_1 := ⟨_, rfl⟩
    have c_5 : cvR T_5 (va_up (va_up (va_up (va_up (va_up R 323 v_1) 324 v_2) 324 v_3) 324 v_4) 325 v_5) := by rw [e_5]; exact y_5
    have o_5 := u_5.at o_4 (by decide)
    clear y_5
    have p315_5 : T_5.2.2 315 = some (.inr (17, [.ref 316, .ref 317, .ref 318])) := c_5.2.2.2.2.1
    have r_5 := c_5.1.1.1
    refine ks_aload_n dX16_doubled_106 rfl rfl ?_
    refine ks_getf (T := TX16) (kf := 15) kx_2383 rfl in_X16 cl_X16 (by decide) o_5 rfl dX16_doubled_107 rfl ?_
    refine ks_aload_n dX16_doubled_110 rfl rfl ?_
    refine ks_getf (T := TX16) (kf := 24) kx_2392 rfl in_X16 cl_X16 (by decide) o_5 rfl dX16_doubled_111 rfl ?_
    refine ks_aload_n dX16_doubled_114 rfl rfl ?_
    refine ks_getf (T := TX16) (kf := 24) kx_2392 rfl in_X16 cl_X16 (by decide) o_5 rfl dX16_doubled_115 rfl ?_
    refine ks_aload_n dX16_doubled_118 rfl rfl ?_
    refine ks_getf (T := TX16) (kf := 24) kx_2392 rfl in_X16 cl_X16 (by decide) o_5 rfl dX16_doubled_119 rfl ?_
    refine ks_callV (n := 3) (M' := mX15_add) (c_fa (d := d) (a := 325) (b := 325) (t := 325) c_5 (by decide) (by decide) (by decide)) r_5 cl_X15 rfl kx_2286 kx_1862 kx_1863 kx_33 kx_1864 (by decide +kernel) rfl (by decide) (Nat.le_of_ble_eq_true rfl) rfl dX16_doubled_122 rfl (fun z_6 T_6 y_6 => ?_)
    obtain ⟨rfl, u_6, y_6⟩ := y_6
    obtain ⟨v_6, e_6⟩ : ∃ v, v = aM v_5 v_5 := ⟨_, rfl⟩
    have c_6 : cvR T_6 (va_up (va_up (va_up (va_up (va_up (va_up R 323 v_1) 324 v_2) 324 v_3) 324 v_4) 325 v_5) 325 v_6) := by rw [e_6]; exact y_6
    have o_6 := u_6.at o_5 (by decide)
    clear y_6
    have p315_6 : T_6.2.2 315 = some (.inr (17, [.ref 316, .ref 317, .ref 318])) := c_6.2.2.2.2.1
    have r_6 := c_6.1.1.1
    refine ks_aload_n dX16_doubled_125 rfl rfl ?_
    refine ks_getf (T := TX16) (kf := 15) kx_2383 rfl in_X16 cl_X16 (by decide) o_6 rfl dX16_doubled_126 rfl ?_
    refine ks_aload_n dX16_doubled_129 rfl rfl ?_
    refine ks_getf (T := TX16) (kf := 24) kx_2392 rfl in_X16 cl_X16 (by decide) o_6 rfl dX16_doubled_130 rfl ?_
    refine ks_aload_n dX16_doubled_133 rfl rfl ?_
    refine ks_getf (T := TX16) (kf := 24) kx_2392 rfl in_X16 cl_X16 (by decide) o_6 rfl dX16_doubled_134 rfl ?_
    refine ks_aload_n dX16_doubled_137 rfl rfl ?_
    refine ks_getf (T := TX16) (kf := 24) kx_2392 rfl in_X16 cl_X16 (by decide) o_6 rfl dX16_doubled_138 rfl ?_
    refine ks_callV (n := 3) (M' := mX15_add) (c_fa (d := d) (a := 325) (b := 325) (t := 325) c_6 (by decide) (by decide) (by decide)) r_6 cl_X15 rfl kx_2286 kx_1862 kx_1863 kx_33 kx_1864 (by decide +kernel) rfl (by decide) (Nat.le_of_ble_eq_true rfl) rfl dX16_doubled_141 rfl (fun z_7 T_7 y_7 => ?_)
    obtain ⟨rfl, u_7, y_7⟩ := y_7
    obtain ⟨v_7, e_7⟩ : ∃ v, v = aM v_6 v_6 := ⟨_, rfl⟩
    have c_7 : cvR T_7 (va_up (va_up (va_up (va_up (va_up (va_up (va_up R 323 v_1) 324 v_2) 324 v_3) 324 v_4) 325 v_5) 325 v_6) 325 v_7) := by rw [e_7]; exact y_7
    have o_7 := u_7.at o_6 (by decide)
    clear y_7
    have p315_7 : T_7.2.2 315 = some (.inr (17, [.ref 316, .ref 317, .ref 318])) := c_7.2.2.2.2.1
    have r_7 := c_7.1.1.1
    refine ks_aload_n dX16_doubled_144 rfl rfl ?_
    refine ks_getf (T := TX16) (kf := 15) kx_2383 rfl in_X16 cl_X16 (by decide) o_7 rfl dX16_doubled_145 rfl ?_
    refine ks_aload_n dX16_doubled_148 rfl rfl ?_
    refine ks_getf (T := TX16) (kf := 24) kx_2392 rfl in_X16 cl_X16 (by decide) o_7 rfl dX16_doubled_149 rfl ?_
    refine ks_aload_n dX16_doubled_152 rfl rfl ?_
    refine ks_getf (T := TX16) (kf := 24) kx_2392 rfl in_X16 cl_X16 (by decide) o_7 rfl dX16_doubled_153 rfl ?_
    refine ks_aload_n dX16_doubled_156 rfl rfl ?_
    refine ks_getf (T := TX16) (kf := 24) kx_2392 rfl in_X16 cl_X16 (by decide) o_7 rfl dX16_doubled_157 rfl ?_
    refine ks_callV (n := 3) (M' := mX15_add) (c_fa (d := d) (a := 325) (b := 325) (t := 325) c_7 (by decide) (by decide) (by decide)) r_7 cl_X15 rfl kx_2286 kx_1862 kx_1863 kx_33 kx_1864 (by decide +kernel) rfl (by decide) (Nat.le_of_ble_eq_true rfl) rfl dX16_doubled_160 rfl (fun z_8 T_8 y_8 => ?_)
    obtain ⟨rfl, u_8, y_8⟩ := y_8
    obtain ⟨v_8, e_8⟩ : ∃ v, v = aM v_7 v_7 := ⟨_, rfl⟩
    have c_8 : cvR T_8 (va_up (va_up (va_up (va_up (va_up (va_up (va_up (va_up R 323 v_1) 324 v_2) 324 v_3) 324 v_4) 325 v_5) 325 v_6) 325 v_7) 325 v_8) := by rw [e_8]; exact y_8
    have o_8 := u_8.at o_7 (by decide)
    clear y_8
    have p315_8 : T_8.2.2 315 = some (.inr (17, [.ref 316, .ref 317, .ref 318])) := c_8.2.2.2.2.1
    have r_8 := c_8.1.1.1
    refine ks_aload_n dX16_doubled_163 rfl rfl ?_
    refine ks_getf (T := TX16) (kf := 15) kx_2383 rfl in_X16 cl_X16 (by decide) o_8 rfl dX16_doubled_164 rfl ?_
    refine ks_aload_n dX16_doubled_167 rfl rfl ?_
    refine ks_getN (T := TX14) (kf := 0) kx_1793 rfl in_X14 cl_X14 (by decide) p315_8 rfl dX16_doubled_168 rfl ?_
    refine ks_aload_n dX16_doubled_171 rfl rfl ?_
    refine ks_getN (T := TX14) (kf := 0) kx_1793 rfl in_X14 cl_X14 (by decide) p315_8 rfl dX16_doubled_172 rfl ?_
    refine ks_aload_n dX16_doubled_175 rfl rfl ?_
    refine ks_getf (T := TX16) (kf := 25) kx_2393 rfl in_X16 cl_X16 (by decide) o_8 rfl dX16_doubled_176 rfl ?_
    refine ks_callV (n := 3) (M' := mX15_multiply) (c_fm (d := d) (a := 316) (b := 316) (t := 326) c_8 (by decide) (by decide) (by decide)) r_8 cl_X15 rfl kx_2285 kx_1922 kx_1923 kx_33 kx_1924 (by decide +kernel) rfl (by decide) (Nat.le_of_ble_eq_true rfl) rfl dX16_doubled_179 rfl (fun z_9 T_9 y_9 => ?_)
    obtain ⟨rfl, u_9, y_9⟩ := y_9
    obtain ⟨v_9, e_9⟩ : ∃ v, v = mM (R 316) (R 316) := ⟨_, rfl⟩
    have c_9 : cvR T_9 (va_up (va_up (va_up (va_up (va_up (va_up (va_up (va_up (va_up R 323 v_1) 324 v_2) 324 v_3) 324 v_4) 325 v_5) 325 v_6) 325 v_7) 325 v_8) 326 v_9) := by rw [e_9]; exact y_9
    have o_9 := u_9.at o_8 (by decide)
    clear y_9
    have p315_9 : T_9.2.2 315 = some (.inr (17, [.ref 316, .ref 317, .ref 318])) := c_9.2.2.2.2.1
    have r_9 := c_9.1.1.1
    refine ks_aload_n dX16_doubled_182 rfl rfl ?_
    refine ks_getf (T := TX16) (kf := 15) kx_2383 rfl in_X16 cl_X16 (by decide) o_9 rfl dX16_doubled_183 rfl ?_
    refine ks_aload_n dX16_doubled_186 rfl rfl ?_
    refine ks_getf (T := TX16) (kf := 25) kx_2393 rfl in_X16 cl_X16 (by decide) o_9 rfl dX16_doubled_187 rfl ?_
    refine ks_aload_n dX16_doubled_190 rfl rfl ?_
    refine ks_getf (T := TX16) (kf := 25) kx_2393 rfl in_X16 cl_X16 (by decide) o_9 rfl dX16_doubled_191 rfl ?_
    refine ks_aload_n dX16_doubled_194 rfl rfl ?_
    refine ks_getf (T := TX16) (kf := 26) kx_2394 rfl in_X16 cl_X16 (by decide) o_9 rfl dX16_doubled_195 rfl ?_
    refine ks_callV (n := 3) (M' := mX15_add) (c_fa (d := d) (a := 326) (b := 326) (t := 327) c_9 (by decide) (by decide) (by decide)) r_9 cl_X15 rfl kx_2286 kx_1862 kx_1863 kx_33 kx_1864 (by decide +kernel) rfl (by decide) (Nat.le_of_ble_eq_true rfl) rfl dX16_doubled_198 rfl (fun z_10 T_10 y_10 => ?_)
    obtain ⟨rfl, u_10, y_10⟩ := y_10
    obtain ⟨v_10, e_10⟩ : ∃ v, v = aM v_9 v_9 := ⟨_, rfl⟩
    have c_10 : cvR T_10 (va_up (va_up (va_up (va_up (va_up (va_up (va_up (va_up (va_up (va_up R 323 v_1) 324 v_2) 324 v_3) 324 v_4) 325 v_5) 325 v_6) 325 v_7) 325 v_8) 326 v_9) 327 v_10) := by rw [e_10]; exact y_10
    have o_10 := u_10.at o_9 (by decide)
    clear y_10
    have p315_10 : T_10.2.2 315 = some (.inr (17, [.ref 316, .ref 317, .ref 318])) := c_10.2.2.2.2.1
    have r_10 := c_10.1.1.1
    refine ks_aload_n dX16_doubled_201 rfl rfl ?_
    refine ks_getf (T := TX16) (kf := 15) kx_2383 rfl in_X16 cl_X16 (by decide) o_10 rfl dX16_doubled_202 rfl ?_
    refine ks_aload_n dX16_doubled_205 rfl rfl ?_
    refine ks_getf (T := TX16) (kf := 25) kx_2393 rfl in_X16 cl_X16 (by decide) o_10 rfl dX16_doubled_206 rfl ?_
    refine ks_aload_n dX16_doubled_209 rfl rfl ?_
    refine ks_getf (T := TX16) (kf := 26) kx_2394 rfl in_X16 cl_X16 (by decide) o_10 rfl dX16_doubled_210 rfl ?_
    refine ks_aload_n dX16_doubled_213 rfl rfl ?_
    refine ks_getf (T := TX16) (kf := 25) kx_2393 rfl in_X16 cl_X16 (by decide) o_10 rfl dX16_doubled_214 rfl ?_
    refine ks_callV (n := 3) (M' := mX15_add) (c_fa (d := d) (a := 326) (b := 327) (t := 326) c_10 (by decide) (by decide) (by decide)) r_10 cl_X15 rfl kx_2286 kx_1862 kx_1863 kx_33 kx_1864 (by decide +kernel) rfl (by decide) (Nat.le_of_ble_eq_true rfl) rfl dX16_doubled_217 rfl (fun z_11 T_11 y_11 => ?_)
    obtain ⟨rfl, u_11, y_11⟩ := y_11
    obtain ⟨v_11, e_11⟩ : ∃ v, v = aM v_9 v_10 := ⟨_, rfl⟩
    have c_11 : cvR T_11 (va_up (va_up (va_up (va_up (va_up (va_up (va_up (va_up (va_up (va_up (va_up R 323 v_1) 324 v_2) 324 v_3) 324 v_4) 325 v_5) 325 v_6) 325 v_7) 325 v_8) 326 v_9) 327 v_10) 326 v_11) := by rw [e_11]; exact y_11
    have o_11 := u_11.at o_10 (by decide)
    clear y_11
    have p315_11 : T_11.2.2 315 = some (.inr (17, [.ref 316, .ref 317, .ref 318])) := c_11.2.2.2.2.1
    have r_11 := c_11.1.1.1
    refine ks_aload_n dX16_doubled_220 rfl rfl ?_
    refine ks_getf (T := TX16) (kf := 15) kx_2383 rfl in_X16 cl_X16 (by decide) o_11 rfl dX16_doubled_221 rfl ?_
    refine ks_aload_n dX16_doubled_224 rfl rfl ?_
    refine ks_getN (T := TX14) (kf := 1) kx_1795 rfl in_X14 cl_X14 (by decide) p315_11 rfl dX16_doubled_225 rfl ?_
    refine ks_aload_n dX16_doubled_228 rfl rfl ?_
    refine ks_getN (T := TX14) (kf := 2) kx_1797 rfl in_X14 cl_X14 (by decide) p315_11 rfl dX16_doubled_229 rfl ?_
    refine ks_aload_n dX16_doubled_232 rfl rfl ?_
    refine ks_getN (T := TX14) (kf := 2) kx_1797 rfl in_X14 cl_X14 (by decide) p315_11 rfl dX16_doubled_233 rfl ?_
    refine ks_callV (n := 3) (M' := mX15_multiply) (c_fm (d := d) (a := 317) (b := 318) (t := 318) c_11 (by decide) (by decide) (by decide)) r_11 cl_X15 rfl kx_2285 kx_1922 kx_1923 kx_33 kx_1924 (by decide +kernel) rfl (by decide) (Nat.le_of_ble_eq_true rfl) rfl dX16_doubled_236 rfl (fun z_12 T_12 y_12 => ?_)
    obtain ⟨rfl, u_12, y_12⟩ := y_12
    obtain ⟨v_12, e_12⟩ : ∃ v, v = mM (R 317) (R 318) := ⟨_, rfl⟩
    have c_12 : cvR T_12 (va_up (va_up (va_up (va_up (va_up (va_up (va_up (va_up (va_up (va_up (va_up (va_up R 323 v_1) 324 v_2) 324 v_3) 324 v_4) 325 v_5) 325 v_6) 325 v_7) 325 v_8) 326 v_9) 327 v_10) 326 v_11) 318 v_12) := by rw [e_12]; exact y_12
    have o_12 := u_12.at o_11 (by decide)
    clear y_12
    have p315_12 : T_12.2.2 315 = some (.inr (17, [.ref 316, .ref 317, .ref 318])) := c_12.2.2.2.2.1
    have r_12 := c_12.1.1.1
    refine ks_aload_n dX16_doubled_239 rfl rfl ?_
    refine ks_getf (T := TX16) (kf := 15) kx_2383 rfl in_X16 cl_X16 (by decide) o_12 rfl dX16_doubled_240 rfl ?_
    refine ks_aload_n dX16_doubled_243 rfl rfl ?_
    refine ks_getN (T := TX14) (kf := 2) kx_1797 rfl in_X14 cl_X14 (by decide) p315_12 rfl dX16_doubled_244 rfl ?_
    refine ks_aload_n dX16_doubled_247 rfl rfl ?_
    refine ks_getN (T := TX14) (kf := 2) kx_1797 rfl in_X14 cl_X14 (by decide) p315_12 rfl dX16_doubled_248 rfl ?_
    refine ks_aload_n dX16_doubled_251 rfl rfl ?_
    refine ks_getN (T := TX14) (kf := 2) kx_1797 rfl in_X14 cl_X14 (by decide) p315_12 rfl dX16_doubled_252 rfl ?_
    refine ks_callV (n := 3) (M' := mX15_add) (c_fa (d := d) (a := 318) (b := 318) (t := 318) c_12 (by decide) (by decide) (by decide)) r_12 cl_X15 rfl kx_2286 kx_1862 kx_1863 kx_33 kx_1864 (by decide +kernel) rfl (by decide) (Nat.le_of_ble_eq_true rfl) rfl dX16_doubled_255 rfl (fun z_13 T_13 y_13 => ?_)
    obtain ⟨rfl, u_13, y_13⟩ := y_13
    obtain ⟨v_13, e_13⟩ : ∃ v, v = aM v_12 v_12 := ⟨_, rfl⟩
    have c_13 : cvR T_13 (va_up (va_up (va_up (va_up (va_up (va_up (va_up (va_up (va_up (va_up (va_up (va_up (va_up R 323 v_1) 324 v_2) 324 v_3) 324 v_4) 325 v_5) 325 v_6) 325 v_7) 325 v_8) 326 v_9) 327 v_10) 326 v_11) 318 v_12) 318 v_13) := by rw [e_13]; exact y_13
    have o_13 := u_13.at o_12 (by decide)
    clear y_13
    have p315_13 : T_13.2.2 315 = some (.inr (17, [.ref 316, .ref 317, .ref 318])) := c_13.2.2.2.2.1
    have r_13 := c_13.1.1.1
    refine ks_aload_n dX16_doubled_258 rfl rfl ?_
    refine ks_getf (T := TX16) (kf := 15) kx_2383 rfl in_X16 cl_X16 (by decide) o_13 rfl dX16_doubled_259 rfl ?_
    refine ks_aload_n dX16_doubled_262 rfl rfl ?_
    refine ks_getf (T := TX16) (kf := 25) kx_2393 rfl in_X16 cl_X16 (by decide) o_13 rfl dX16_doubled_263 rfl ?_
    refine ks_aload_n dX16_doubled_266 rfl rfl ?_
    refine ks_getf (T := TX16) (kf := 25) kx_2393 rfl in_X16 cl_X16 (by decide) o_13 rfl dX16_doubled_267 rfl ?_
    refine ks_aload_n dX16_doubled_270 rfl rfl ?_
    refine ks_getN (T := TX14) (kf := 0) kx_1793 rfl in_X14 cl_X14 (by decide) p315_13 rfl dX16_doubled_271 rfl ?_
    refine ks_callV (n := 3) (M' := mX15_multiply) (c_fm (d := d) (a := 326) (b := 326) (t := 316) c_13 (by decide) (by decide) (by decide)) r_13 cl_X15 rfl kx_2285 kx_1922 kx_1923 kx_33 kx_1924 (by decide +kernel) rfl (by decide) (Nat.le_of_ble_eq_true rfl) rfl dX16_doubled_274 rfl (fun z_14 T_14 y_14 => ?_)
    obtain ⟨rfl, u_14, y_14⟩ := y_14
    obtain ⟨v_14, e_14⟩ : ∃ v, v = mM v_11 v_11 := ⟨_, rfl⟩
    have c_14 : cvR T_14 (va_up (va_up (va_up (va_up (va_up (va_up (va_up (va_up (va_up (va_up (va_up (va_up (va_up (va_up R 323 v_1) 324 v_2) 324 v_3) 324 v_4) 325 v_5) 325 v_6) 325 v_7) 325 v_8) 326 v_9) 327 v_10) 326 v_11) 318 v_12) 318 v_13) 316 v_14) := by rw [e_14]; exact y_14
    have o_14 := u_14.at o_13 (by decide)
    clear y_14
    have p315_14 : T_14.2.2 315 = some (.inr (17, [.ref 316, .ref 317, .ref 318])) := c_14.2.2.2.2.1
    have r_14 := c_14.1.1.1
    refine ks_aload_n dX16_doubled_277 rfl rfl ?_
    refine ks_getf (T := TX16) (kf := 15) kx_2383 rfl in_X16 cl_X16 (by decide) o_14 rfl dX16_doubled_278 rfl ?_
    refine ks_aload_n dX16_doubled_281 rfl rfl ?_
    refine ks_getN (T := TX14) (kf := 0) kx_1793 rfl in_X14 cl_X14 (by decide) p315_14 rfl dX16_doubled_282 rfl ?_
    refine ks_aload_n dX16_doubled_285 rfl rfl ?_
    refine ks_getf (T := TX16) (kf := 23) kx_2391 rfl in_X16 cl_X16 (by decide) o_14 rfl dX16_doubled_286 rfl ?_
    refine ks_aload_n dX16_doubled_289 rfl rfl ?_
    refine ks_getN (T := TX14) (kf := 0) kx_1793 rfl in_X14 cl_X14 (by decide) p315_14 rfl dX16_doubled_290 rfl ?_
    refine ks_callV (n := 3) (M' := mX15_subtract) (c_fs (d := d) (a := 316) (b := 324) (t := 316) c_14 (by decide) (by decide) (by decide)) r_14 cl_X15 rfl kx_2298 kx_2299 kx_2300 kx_33 kx_2301 (by decide +kernel) rfl (by decide) (Nat.le_of_ble_eq_true rfl) rfl dX16_doubled_293 rfl (fun z_15 T_15 y_15 => ?_)
    obtain ⟨rfl, u_15, y_15⟩ := y_15
    obtain ⟨v_15, e_15⟩ : ∃ v, v = sM v_14 v_4 := ⟨_, rfl⟩
    have c_15 : cvR T_15 (va_up (va_up (va_up (va_up (va_up (va_up (va_up (va_up (va_up (va_up (va_up (va_up (va_up (va_up (va_up R 323 v_1) 324 v_2) 324 v_3) 324 v_4) 325 v_5) 325 v_6) 325 v_7) 325 v_8) 326 v_9) 327 v_10) 326 v_11) 318 v_12) 318 v_13) 316 v_14) 316 v_15) := by rw [e_15]; exact y_15
    have o_15 := u_15.at o_14 (by decide)
    clear y_15
    have p315_15 : T_15.2.2 315 = some (.inr (17, [.ref 316, .ref 317, .ref 318])) := c_15.2.2.2.2.1
    have r_15 := c_15.1.1.1
    refine ks_aload_n dX16_doubled_296 rfl rfl ?_
    refine ks_getf (T := TX16) (kf := 15) kx_2383 rfl in_X16 cl_X16 (by decide) o_15 rfl dX16_doubled_297 rfl ?_
    refine ks_aload_n dX16_doubled_300 rfl rfl ?_
    refine ks_getN (T := TX14) (kf := 0) kx_1793 rfl in_X14 cl_X14 (by decide) p315_15 rfl dX16_doubled_301 rfl ?_
    refine ks_aload_n dX16_doubled_304 rfl rfl ?_
    refine ks_getf (T := TX16) (kf := 23) kx_2391 rfl in_X16 cl_X16 (by decide) o_15 rfl dX16_doubled_305 rfl ?_
    refine ks_aload_n dX16_doubled_308 rfl rfl ?_
    refine ks_getN (T := TX14) (kf := 0) kx_1793 rfl in_X14 cl_X14 (by decide) p315_15 rfl dX16_doubled_309 rfl ?_
    refine ks_callV (n := 3) (M' := mX15_subtract) (c_fs (d := d) (a := 316) (b := 324) (t := 316) c_15 (by decide) (by decide) (by decide)) r_15 cl_X15 rfl kx_2298 kx_2299 kx_2300 kx_33 kx_2301 (by decide +kernel) rfl (by decide) (Nat.le_of_ble_eq_true rfl) rfl dX16_doubled_312 rfl (fun z_16 T_16 y_16 => ?_)
    obtain ⟨rfl, u_16, y_16⟩ := y_16
    obtain ⟨v_16, e_16⟩ : ∃ v, v = sM v_15 v_4 := ⟨_, rfl⟩
    have c_16 : cvR T_16 (va_up (va_up (va_up (va_up (va_up (va_up (va_up (va_up (va_up (va_up (va_up (va_up (va_up (va_up (va_up (va_up R 323 v_1) 324 v_2) 324 v_3) 324 v_4) 325 v_5) 325 v_6) 325 v_7) 325 v_8) 326 v_9) 327 v_10) 326 v_11) 318 v_12) 318 v_13) 316 v_14) 316 v_15) 316 v_16) := by rw [e_16]; exact y_16
    have o_16 := u_16.at o_15 (by decide)
    clear y_16
    have p315_16 : T_16.2.2 315 = some (.inr (17, [.ref 316, .ref 317, .ref 318])) := c_16.2.2.2.2.1
    have r_16 := c_16.1.1.1
    refine ks_aload_n dX16_doubled_315 rfl rfl ?_
    refine ks_getf (T := TX16) (kf := 15) kx_2383 rfl in_X16 cl_X16 (by decide) o_16 rfl dX16_doubled_316 rfl ?_
    refine ks_aload_n dX16_doubled_319 rfl rfl ?_
    refine ks_getf (T := TX16) (kf := 23) kx_2391 rfl in_X16 cl_X16 (by decide) o_16 rfl dX16_doubled_320 rfl ?_
    refine ks_aload_n dX16_doubled_323 rfl rfl ?_
    refine ks_getN (T := TX14) (kf := 0) kx_1793 rfl in_X14 cl_X14 (by decide) p315_16 rfl dX16_doubled_324 rfl ?_
    refine ks_aload_n dX16_doubled_327 rfl rfl ?_
    refine ks_getf (T := TX16) (kf := 23) kx_2391 rfl in_X16 cl_X16 (by decide) o_16 rfl dX16_doubled_328 rfl ?_
    refine ks_callV (n := 3) (M' := mX15_subtract) (c_fs (d := d) (a := 324) (b := 316) (t := 324) c_16 (by decide) (by decide) (by decide)) r_16 cl_X15 rfl kx_2298 kx_2299 kx_2300 kx_33 kx_2301 (by decide +kernel) rfl (by decide) (Nat.le_of_ble_eq_true rfl) rfl dX16_doubled_331 rfl (fun z_17 T_17 y_17 => ?_)
    obtain ⟨rfl, u_17, y_17⟩ := y_17
    obtain ⟨v_17, e_17⟩ : ∃ v, v = sM v_4 v_16 := ⟨_, rfl⟩
    have c_17 : cvR T_17 (va_up (va_up (va_up (va_up (va_up (va_up (va_up (va_up (va_up (va_up (va_up (va_up (va_up (va_up (va_up (va_up (va_up R 323 v_1) 324 v_2) 324 v_3) 324 v_4) 325 v_5) 325 v_6) 325 v_7) 325 v_8) 326 v_9) 327 v_10) 326 v_11) 318 v_12) 318 v_13) 316 v_14) 316 v_15) 316 v_16) 324 v_17) := by rw [e_17]; exact y_17
    have o_17 := u_17.at o_16 (by decide)
    clear y_17
    have p315_17 : T_17.2.2 315 = some (.inr (17, [.ref 316, .ref 317, .ref 318])) := c_17.2.2.2.2.1
    have r_17 := c_17.1.1.1
    refine ks_aload_n dX16_doubled_334 rfl rfl ?_
    refine ks_getf (T := TX16) (kf := 15) kx_2383 rfl in_X16 cl_X16 (by decide) o_17 rfl dX16_doubled_335 rfl ?_
    refine ks_aload_n dX16_doubled_338 rfl rfl ?_
    refine ks_getf (T := TX16) (kf := 25) kx_2393 rfl in_X16 cl_X16 (by decide) o_17 rfl dX16_doubled_339 rfl ?_
    refine ks_aload_n dX16_doubled_342 rfl rfl ?_
    refine ks_getf (T := TX16) (kf := 23) kx_2391 rfl in_X16 cl_X16 (by decide) o_17 rfl dX16_doubled_343 rfl ?_
    refine ks_aload_n dX16_doubled_346 rfl rfl ?_
    refine ks_getN (T := TX14) (kf := 1) kx_1795 rfl in_X14 cl_X14 (by decide) p315_17 rfl dX16_doubled_347 rfl ?_
    refine ks_callV (n := 3) (M' := mX15_multiply) (c_fm (d := d) (a := 326) (b := 324) (t := 317) c_17 (by decide) (by decide) (by decide)) r_17 cl_X15 rfl kx_2285 kx_1922 kx_1923 kx_33 kx_1924 (by decide +kernel) rfl (by decide) (Nat.le_of_ble_eq_true rfl) rfl dX16_doubled_350 rfl (fun z_18 T_18 y_18 => ?_)
    obtain ⟨rfl, u_18, y_18⟩ := y_18
    obtain ⟨v_18, e_18⟩ : ∃ v, v = mM v_11 v_17 := ⟨_, rfl⟩
    have c_18 : cvR T_18 (va_up (va_up (va_up (va_up (va_up (va_up (va_up (va_up (va_up (va_up (va_up (va_up (va_up (va_up (va_up (va_up (va_up (va_up R 323 v_1) 324 v_2) 324 v_3) 324 v_4) 325 v_5) 325 v_6) 325 v_7) 325 v_8) 326 v_9) 327 v_10) 326 v_11) 318 v_12) 318 v_13) 316 v_14) 316 v_15) 316 v_16) 324 v_17) 317 v_18) := by rw [e_18]; exact y_18
    have o_18 := u_18.at o_17 (by decide)
    clear y_18
    have p315_18 : T_18.2.2 315 = some (.inr (17, [.ref 316, .ref 317, .ref 318])) := c_18.2.2.2.2.1
    have r_18 := c_18.1.1.1
    refine ks_aload_n dX16_doubled_353 rfl rfl ?_
    refine ks_getf (T := TX16) (kf := 15) kx_2383 rfl in_X16 cl_X16 (by decide) o_18 rfl dX16_doubled_354 rfl ?_
    refine ks_aload_n dX16_doubled_357 rfl rfl ?_
    refine ks_getN (T := TX14) (kf := 1) kx_1795 rfl in_X14 cl_X14 (by decide) p315_18 rfl dX16_doubled_358 rfl ?_
    refine ks_aload_n dX16_doubled_361 rfl rfl ?_
    refine ks_getf (T := TX16) (kf := 24) kx_2392 rfl in_X16 cl_X16 (by decide) o_18 rfl dX16_doubled_362 rfl ?_
    refine ks_aload_n dX16_doubled_365 rfl rfl ?_
    refine ks_getN (T := TX14) (kf := 1) kx_1795 rfl in_X14 cl_X14 (by decide) p315_18 rfl dX16_doubled_366 rfl ?_
    refine ks_callV (n := 3) (M' := mX15_subtract) (c_fs (d := d) (a := 317) (b := 325) (t := 317) c_18 (by decide) (by decide) (by decide)) r_18 cl_X15 rfl kx_2298 kx_2299 kx_2300 kx_33 kx_2301 (by decide +kernel) rfl (by decide) (Nat.le_of_ble_eq_true rfl) rfl dX16_doubled_369 rfl (fun z_19 T_19 y_19 => ?_)
    obtain ⟨rfl, u_19, y_19⟩ := y_19
    obtain ⟨v_19, e_19⟩ : ∃ v, v = sM v_18 v_8 := ⟨_, rfl⟩
    have c_19 : cvR T_19 (va_up (va_up (va_up (va_up (va_up (va_up (va_up (va_up (va_up (va_up (va_up (va_up (va_up (va_up (va_up (va_up (va_up (va_up (va_up R 323 v_1) 324 v_2) 324 v_3) 324 v_4) 325 v_5) 325 v_6) 325 v_7) 325 v_8) 326 v_9) 327 v_10) 326 v_11) 318 v_12) 318 v_13) 316 v_14) 316 v_15) 316 v_16) 324 v_17) 317 v_18) 317 v_19) := by rw [e_19]; exact y_19
    have o_19 := u_19.at o_18 (by decide)
    clear y_19
    have p315_19 : T_19.2.2 315 = some (.inr (17, [.ref 316, .ref 317, .ref 318])) := c_19.2.2.2.2.1
    have r_19 := c_19.1.1.1
    refine ks_ret rfl dX16_doubled_372 ?_
    refine ⟨rfl, (((((((((((((((((((ks_up.rf _ _).trans (u_1.mono (by decide))).trans (u_2.mono (by decide))).trans (u_3.mono (by decide))).trans (u_4.mono (by decide))).trans (u_5.mono (by decide))).trans (u_6.mono (by decide))).trans (u_7.mono (by decide))).trans (u_8.mono (by decide))).trans (u_9.mono (by decide))).trans (u_10.mono (by decide))).trans (u_11.mono (by decide))).trans (u_12.mono (by decide))).trans (u_13.mono (by decide))).trans (u_14.mono (by decide))).trans (u_15.mono (by decide))).trans (u_16.mono (by decide))).trans (u_17.mono (by decide))).trans (u_18.mono (by decide))).trans (u_19.mono (by decide)), _, c_19, ?_, fun k hk hk2 => ?_⟩
    · show (v_16, v_19, v_13) = rfD (ptR R 316)
      have h0 : ¬ R 318 = 0 := of_decide_eq_false h9
      unfold rfD
      rw [if_neg (show ¬ (ptR R 316).2.2 = 0 from h0)]
      show _ = (dbX (R 316) (R 317), dbY (R 316) (R 317), dbZ (R 317) (R 318))
      subst e_1 e_2 e_3 e_4 e_5 e_6 e_7 e_8 e_9 e_10 e_11 e_12 e_13 e_14 e_15 e_16 e_17 e_18 e_19
      unfold dbX dbY dbX dbZ dbM
      rw [rd_S, rd_E, mM_comm (aM _ _) (sM _ _)]
    · rw [va_up_ne _ _ (by omega), va_up_ne _ _ (by omega), va_up_ne _ _ (by omega), va_up_ne _ _ (by omega), va_up_ne _ _ (by omega), va_up_ne _ _ (by omega), va_up_ne _ _ (by omega), va_up_ne _ _ (by omega), va_up_ne _ _ (by omega), va_up_ne _ _ (by omega), va_up_ne _ _ (by omega), va_up_ne _ _ (by omega), va_up_ne _ _ (by omega), va_up_ne _ _ (by omega), va_up_ne _ _ (by omega), va_up_ne _ _ (by omega), va_up_ne _ _ (by omega), va_up_ne _ _ (by omega), va_up_ne _ _ (by omega)]
  · refine ks_ret rfl dX16_doubled_10 ?_
    refine ⟨rfl, ks_up.rf _ _, R, hC, ?_, fun _ _ _ => rfl⟩
    unfold rfD
    rw [if_pos]
    exact of_decide_eq_true h9
set_option maxRecDepth 100000 in
set_option maxHeartbeats 3200000 in
theorem c_md_doubled319 {l : Launch} {G : ks_G} {d : Nat} {S : ks_S} {V : Nat → Value} {R : Nat → Nat} (hO : S.2.2 290 = some (rfE V)) (hC : cvR S R) : ks_P l G yX16_doubled mX16_doubled (d + 2) [.ref 290, .ref 319] S (fun z S' => z = none ∧ ks_up S S' [552, 320, 321, 322, 323, 324, 325, 326, 327, 328] ∧ ∃ R', cvR S' R' ∧ ptR R' 320 = rfD (ptR R 320) ∧ ∀ k, k < 320 ∨ 322 < k → k < 323 → R' k = R k) := by
  have p319_0 : S.2.2 319 = some (.inr (17, [.ref 320, .ref 321, .ref 322])) := hC.2.2.2.2.2
  have r_0 := hC.1.1.1
  refine ks_of (by decide) rfl rfl (Nat.le_of_ble_eq_true rfl) ?_
  show ks_X l G mX16_doubled (d + 2) 0 [(0, .ref 290), (1, .ref 319)] [] S _
  refine ks_aload_n dX16_doubled_0 rfl rfl ?_
  refine ks_getN (T := TX14) (kf := 2) kx_1797 rfl in_X14 cl_X14 (by decide) p319_0 rfl dX16_doubled_1 rfl ?_
  refine ks_callS (n := 1) (M' := mX15_isZero) (c_fz (d := d + 1) (a := 322) hC (by decide)) kx_2306 kx_2307 kx_33 kx_2308 (by decide +kernel) rfl (by decide) (Nat.le_of_ble_eq_true rfl) rfl dX16_doubled_4 rfl (fun z9 T9 y9 => ?_)
  obtain ⟨rfl, hT9⟩ := y9
  obtain rfl := hT9.symm
  refine ks_if_eqZ (tgt := 11) dX16_doubled_7 (by decide) rfl (fun h9 => ?_) (fun h9 => ?_)
  · have p319_0 : S.2.2 319 = some (.inr (17, [.ref 320, .ref 321, .ref 322])) := hC.2.2.2.2.2
    have r_0 := hC.1.1.1
    refine ks_aload_n dX16_doubled_11 rfl rfl ?_
    refine ks_getf (T := TX16) (kf := 15) kx_2383 rfl in_X16 cl_X16 (by decide) hO rfl dX16_doubled_12 rfl ?_
    refine ks_aload_n dX16_doubled_15 rfl rfl ?_
    refine ks_getN (T := TX14) (kf := 1) kx_1795 rfl in_X14 cl_X14 (by decide) p319_0 rfl dX16_doubled_16 rfl ?_
    refine ks_aload_n dX16_doubled_19 rfl rfl ?_
    refine ks_getN (T := TX14) (kf := 1) kx_1795 rfl in_X14 cl_X14 (by decide) p319_0 rfl dX16_doubled_20 rfl ?_
    refine ks_aload_n dX16_doubled_23 rfl rfl ?_
    refine ks_getf (T := TX16) (kf := 22) kx_2390 rfl in_X16 cl_X16 (by decide) hO rfl dX16_doubled_24 rfl ?_
    refine ks_callV (n := 3) (M' := mX15_multiply) (c_fm (d := d) (a := 321) (b := 321) (t := 323) hC (by decide) (by decide) (by decide)) r_0 cl_X15 rfl kx_2285 kx_1922 kx_1923 kx_33 kx_1924 (by decide +kernel) rfl (by decide) (Nat.le_of_ble_eq_true rfl) rfl dX16_doubled_27 rfl (fun z_1 T_1 y_1 => ?_)
    obtain ⟨rfl, u_1, y_1⟩ := y_1
    obtain ⟨v_1, e_1⟩ : ∃ v, v = mM (R 321) (R 321) := ⟨_, rfl⟩
    have c_1 : cvR T_1 (va_up R 323 v_1) := by rw [e_1]; exact y_1
    have o_1 := u_1.at hO (by decide)
    clear y_1
    have p319_1 : T_1.2.2 319 = some (.inr (17, [.ref 320, .ref 321, .ref 322])) := c_1.2.2.2.2.2
    have r_1 := c_1.1.1.1
    refine ks_aload_n dX16_doubled_30 rfl rfl ?_
    refine ks_getf (T := TX16) (kf := 15) kx_2383 rfl in_X16 cl_X16 (by decide) o_1 rfl dX16_doubled_31 rfl ?_
    refine ks_aload_n dX16_doubled_34 rfl rfl ?_
    refine ks_getN (T := TX14) (kf := 0) kx_1793 rfl in_X14 cl_X14 (by decide) p319_1 rfl dX16_doubled_35 rfl ?_
    refine ks_aload_n dX16_doubled_38 rfl rfl ?_
    refine ks_getf (T := TX16) (kf := 22) kx_2390 rfl in_X16 cl_X16 (by decide) o_1 rfl dX16_doubled_39 rfl ?_
    refine ks_aload_n dX16_doubled_42 rfl rfl ?_
    refine ks_getf (T := TX16) (kf := 23) kx_2391 rfl in_X16 cl_X16 (by decide) o_1 rfl dX16_doubled_43 rfl ?_
    refine ks_callV (n := 3) (M' := mX15_multiply) (c_fm (d := d) (a := 320) (b := 323) (t := 324) c_1 (by decide) (by decide) (by decide)) r_1 cl_X15 rfl kx_2285 kx_1922 kx_1923 kx_33 kx_1924 (by decide +kernel) rfl (by decide) (Nat.le_of_ble_eq_true rfl) rfl dX16_doubled_46 rfl (fun z_2 T_2 y_2 => ?_)
    obtain ⟨rfl, u_2, y_2⟩ := y_2
    obtain ⟨v_2, e_2⟩ : ∃ v, v = mM (R 320) v_1 := ⟨_, rfl⟩
    have c_2 : cvR T_2 (va_up (va_up R 323 v_1) 324 v_2) := by rw [e_2]; exact y_2
    have o_2 := u_2.at o_1 (by decide)
    clear y_2
    have p319_2 : T_2.2.2 319 = some (.inr (17, [.ref 320, .ref 321, .ref 322])) := c_2.2.2.2.2.2
    have r_2 := c_2.1.1.1
    refine ks_aload_n dX16_doubled_49 rfl rfl ?_
    refine ks_getf (T := TX16) (kf := 15) kx_2383 rfl in_X16 cl_X16 (by decide) o_2 rfl dX16_doubled_50 rfl ?_
    refine ks_aload_n dX16_doubled_53 rfl rfl ?_
    refine ks_getf (T := TX16) (kf := 23) kx_2391 rfl in_X16 cl_X16 (by decide) o_2 rfl dX16_doubled_54 rfl ?_
    refine ks_aload_n dX16_doubled_57 rfl rfl ?_
    refine ks_getf (T := TX16) (kf := 23) kx_2391 rfl in_X16 cl_X16 (by decide) o_2 rfl dX16_doubled_58 rfl ?_
    refine ks_aload_n dX16_doubled_61 rfl rfl ?_
    refine ks_getf (T := TX16) (kf := 23) kx_2391 rfl in_X16 cl_X16 (by decide) o_2 rfl dX16_doubled_62 rfl ?_
    refine ks_callV (n := 3) (M' := mX15_add) (c_fa (d := d) (a := 324) (b := 324) (t := 324) c_2 (by decide) (by decide) (by decide)) r_2 cl_X15 rfl kx_2286 kx_1862 kx_1863 kx_33 kx_1864 (by decide +kernel) rfl (by decide) (Nat.le_of_ble_eq_true rfl) rfl dX16_doubled_65 rfl (fun z_3 T_3 y_3 => ?_)
    obtain ⟨rfl, u_3, y_3⟩ := y_3
    obtain ⟨v_3, e_3⟩ : ∃ v, v = aM v_2 v_2 := ⟨_, rfl⟩
    have c_3 : cvR T_3 (va_up (va_up (va_up R 323 v_1) 324 v_2) 324 v_3) := by rw [e_3]; exact y_3
    have o_3 := u_3.at o_2 (by decide)
    clear y_3
    have p319_3 : T_3.2.2 319 = some (.inr (17, [.ref 320, .ref 321, .ref 322])) := c_3.2.2.2.2.2
    have r_3 := c_3.1.1.1
    refine ks_aload_n dX16_doubled_68 rfl rfl ?_
    refine ks_getf (T := TX16) (kf := 15) kx_2383 rfl in_X16 cl_X16 (by decide) o_3 rfl dX16_doubled_69 rfl ?_
    refine ks_aload_n dX16_doubled_72 rfl rfl ?_
    refine ks_getf (T := TX16) (kf := 23) kx_2391 rfl in_X16 cl_X16 (by decide) o_3 rfl dX16_doubled_73 rfl ?_
    refine ks_aload_n dX16_doubled_76 rfl rfl ?_
    refine ks_getf (T := TX16) (kf := 23) kx_2391 rfl in_X16 cl_X16 (by decide) o_3 rfl dX16_doubled_77 rfl ?_
    refine ks_aload_n dX16_doubled_80 rfl rfl ?_
    refine ks_getf (T := TX16) (kf := 23) kx_2391 rfl in_X16 cl_X16 (by decide) o_3 rfl dX16_doubled_81 rfl ?_
    refine ks_callV (n := 3) (M' := mX15_add) (c_fa (d := d) (a := 324) (b := 324) (t := 324) c_3 (by decide) (by decide) (by decide)) r_3 cl_X15 rfl kx_2286 kx_1862 kx_1863 kx_33 kx_1864 (by decide +kernel) rfl (by decide) (Nat.le_of_ble_eq_true rfl) rfl dX16_doubled_84 rfl (fun z_4 T_4 y_4 => ?_)
    obtain ⟨rfl, u_4, y_4⟩ := y_4
    obtain ⟨v_4, e_4⟩ : ∃ v, v = aM v_3 v_3 := ⟨_, rfl⟩
    have c_4 : cvR T_4 (va_up (va_up (va_up (va_up R 323 v_1) 324 v_2) 324 v_3) 324 v_4) := by rw [e_4]; exact y_4
    have o_4 := u_4.at o_3 (by decide)
    clear y_4
    have p319_4 : T_4.2.2 319 = some (.inr (17, [.ref 320, .ref 321, .ref 322])) := c_4.2.2.2.2.2
    have r_4 := c_4.1.1.1
    refine ks_aload_n dX16_doubled_87 rfl rfl ?_
    refine ks_getf (T := TX16) (kf := 15) kx_2383 rfl in_X16 cl_X16 (by decide) o_4 rfl dX16_doubled_88 rfl ?_
    refine ks_aload_n dX16_doubled_91 rfl rfl ?_
    refine ks_getf (T := TX16) (kf := 22) kx_2390 rfl in_X16 cl_X16 (by decide) o_4 rfl dX16_doubled_92 rfl ?_
    refine ks_aload_n dX16_doubled_95 rfl rfl ?_
    refine ks_getf (T := TX16) (kf := 22) kx_2390 rfl in_X16 cl_X16 (by decide) o_4 rfl dX16_doubled_96 rfl ?_
    refine ks_aload_n dX16_doubled_99 rfl rfl ?_
    refine ks_getf (T := TX16) (kf := 24) kx_2392 rfl in_X16 cl_X16 (by decide) o_4 rfl dX16_doubled_100 rfl ?_
    refine ks_callV (n := 3) (M' := mX15_multiply) (c_fm (d := d) (a := 323) (b := 323) (t := 325) c_4 (by decide) (by decide) (by decide)) r_4 cl_X15 rfl kx_2285 kx_1922 kx_1923 kx_33 kx_1924 (by decide +kernel) rfl (by decide) (Nat.le_of_ble_eq_true rfl) rfl dX16_doubled_103 rfl (fun z_5 T_5 y_5 => ?_)
    obtain ⟨rfl, u_5, y_5⟩ := y_5
    obtain ⟨v_5, e_5⟩ : ∃ v, v = mM v_1 v_1 := ⟨_, rfl⟩
    have c_5 : cvR T_5 (va_up (va_up (va_up (va_up (va_up R 323 v_1) 324 v_2) 324 v_3) 324 v_4) 325 v_5) := by rw [e_5]; exact y_5
    have o_5 := u_5.at o_4 (by decide)
    clear y_5
    have p319_5 : T_5.2.2 319 = some (.inr (17, [.ref 320, .ref 321, .ref 322])) := c_5.2.2.2.2.2
    have r_5 := c_5.1.1.1
    refine ks_aload_n dX16_doubled_106 rfl rfl ?_
    refine ks_getf (T := TX16) (kf := 15) kx_2383 rfl in_X16 cl_X16 (by decide) o_5 rfl dX16_doubled_107 rfl ?_
    refine ks_aload_n dX16_doubled_110 rfl rfl ?_
    refine ks_getf (T := TX16) (kf := 24) kx_2392 rfl in_X16 cl_X16 (by decide) o_5 rfl dX16_doubled_111 rfl ?_
    refine ks_aload_n dX16_doubled_114 rfl rfl ?_
    refine ks_getf (T := TX16) (kf := 24) kx_2392 rfl in_X16 cl_X16 (by decide) o_5 rfl dX16_doubled_115 rfl ?_
    refine ks_aload_n dX16_doubled_118 rfl rfl ?_
    refine ks_getf (T := TX16) (kf := 24) kx_2392 rfl in_X16 cl_X16 (by decide) o_5 rfl dX16_doubled_119 rfl ?_
    refine ks_callV (n := 3) (M' := mX15_add) (c_fa (d := d) (a := 325) (b := 325) (t := 325) c_5 (by decide) (by decide) (by decide)) r_5 cl_X15 rfl kx_2286 kx_1862 kx_1863 kx_33 kx_1864 (by decide +kernel) rfl (by decide) (Nat.le_of_ble_eq_true rfl) rfl dX16_doubled_122 rfl (fun z_6 T_6 y_6 => ?_)
    obtain ⟨rfl, u_6, y_6⟩ := y_6
    obtain ⟨v_6, e_6⟩ : ∃ v, v = aM v_5 v_5 := ⟨_, rfl⟩
    have c_6 : cvR T_6 (va_up (va_up (va_up (va_up (va_up (va_up R 323 v_1) 324 v_2) 324 v_3) 324 v_4) 325 v_5) 325 v_6) := by rw [e_6]; exact y_6
    have o_6 := u_6.at o_5 (by decide)
    clear y_6
    have p319_6 : T_6.2.2 319 = some (.inr (17, [.ref 320, .ref 321, .ref 322])) := c_6.2.2.2.2.2
    have r_6 := c_6.1.1.1
    refine ks_aload_n dX16_doubled_125 rfl rfl ?_
    refine ks_getf (T := TX16) (kf := 15) kx_2383 rfl in_X16 cl_X16 (by decide) o_6 rfl dX16_doubled_126 rfl ?_
    refine ks_aload_n dX16_doubled_129 rfl rfl ?_
    refine ks_getf (T := TX16) (kf := 24) kx_2392 rfl in_X16 cl_X16 (by decide) o_6 rfl dX16_doubled_130 rfl ?_
    refine ks_aload_n dX16_doubled_133 rfl rfl ?_
    refine ks_getf (T := TX16) (kf := 24) kx_2392 rfl in_X16 cl_X16 (by decide) o_6 rfl dX16_doubled_134 rfl ?_
    refine ks_aload_n dX16_doubled_137 rfl rfl ?_
    refine ks_getf (T := TX16) (kf := 24) kx_2392 rfl in_X16 cl_X16 (by decide) o_6 rfl dX16_doubled_138 rfl ?_
    refine ks_callV (n := 3) (M' := mX15_add) (c_fa (d := d) (a := 325) (b := 325) (t := 325) c_6 (by decide) (by decide) (by decide)) r_6 cl_X15 rfl kx_2286 kx_1862 kx_1863 kx_33 kx_1864 (by decide +kernel) rfl (by decide) (Nat.le_of_ble_eq_true rfl) rfl dX16_doubled_141 rfl (fun z_7 T_7 y_7 => ?_)
    obtain ⟨rfl, u_7, y_7⟩ := y_7
    obtain ⟨v_7, e_7⟩ : ∃ v, v = aM v_6 v_6 := ⟨_, rfl⟩
    have c_7 : cvR T_7 (va_up (va_up (va_up (va_up (va_up (va_up (va_up R 323 v_1) 324 v_2) 324 v_3) 324 v_4) 325 v_5) 325 v_6) 325 v_7) := by rw [e_7]; exact y_7
    have o_7 := u_7.at o_6 (by decide)
    clear y_7
    have p319_7 : T_7.2.2 319 = some (.inr (17, [.ref 320, .ref 321, .ref 322])) := c_7.2.2.2.2.2
    have r_7 := c_7.1.1.1
    refine ks_aload_n dX16_doubled_144 rfl rfl ?_
    refine ks_getf (T := TX16) (kf := 15) kx_2383 rfl in_X16 cl_X16 (by decide) o_7 rfl dX16_doubled_145 rfl ?_
    refine ks_aload_n dX16_doubled_148 rfl rfl ?_
    refine ks_getf (T := TX16) (kf := 24) kx_2392 rfl in_X16 cl_X16 (by decide) o_7 rfl dX16_doubled_149 rfl ?_
    refine ks_aload_n dX16_doubled_152 rfl rfl ?_
    refine ks_getf (T := TX16) (kf := 24) kx_2392 rfl in_X16 cl_X16 (by decide) o_7 rfl dX16_doubled_153 rfl ?_
    refine ks_aload_n dX16_doubled_156 rfl rfl ?_
    refine ks_getf (T := TX16) (kf := 24) kx_2392 rfl in_X16 cl_X16 (by decide) o_7 rfl dX16_doubled_157 rfl ?_
    refine ks_callV (n := 3) (M' := mX15_add) (c_fa (d := d) (a := 325) (b := 325) (t := 325) c_7 (by decide) (by decide) (by decide)) r_7 cl_X15 rfl kx_2286 kx_1862 kx_1863 kx_33 kx_1864 (by decide +kernel) rfl (by decide) (Nat.le_of_ble_eq_true rfl) rfl dX16_doubled_160 rfl (fun z_8 T_8 y_8 => ?_)
    obtain ⟨rfl, u_8, y_8⟩ := y_8
    obtain ⟨v_8, e_8⟩ : ∃ v, v = aM v_7 v_7 := ⟨_, rfl⟩
    have c_8 : cvR T_8 (va_up (va_up (va_up (va_up (va_up (va_up (va_up (va_up R 323 v_1) 324 v_2) 324 v_3) 324 v_4) 325 v_5) 325 v_6) 325 v_7) 325 v_8) := by rw [e_8]; exact y_8
    have o_8 := u_8.at o_7 (by decide)
    clear y_8
    have p319_8 : T_8.2.2 319 = some (.inr (17, [.ref 320, .ref 321, .ref 322])) := c_8.2.2.2.2.2
    have r_8 := c_8.1.1.1
    refine ks_aload_n dX16_doubled_163 rfl rfl ?_
    refine ks_getf (T := TX16) (kf := 15) kx_2383 rfl in_X16 cl_X16 (by decide) o_8 rfl dX16_doubled_164 rfl ?_
    refine ks_aload_n dX16_doubled_167 rfl rfl ?_
    refine ks_getN (T := TX14) (kf := 0) kx_1793 rfl in_X14 cl_X14 (by decide) p319_8 rfl dX16_doubled_168 rfl ?_
    refine ks_aload_n dX16_doubled_171 rfl rfl ?_
    refine ks_getN (T := TX14) (kf := 0) kx_1793 rfl in_X14 cl_X14 (by decide) p319_8 rfl dX16_doubled_172 rfl ?_
    refine ks_aload_n dX16_doubled_175 rfl rfl ?_
    refine ks_getf (T := TX16) (kf := 25) kx_2393 rfl in_X16 cl_X16 (by decide) o_8 rfl dX16_doubled_176 rfl ?_
    refine ks_callV (n := 3) (M' := mX15_multiply) (c_fm (d := d) (a := 320) (b := 320) (t := 326) c_8 (by decide) (by decide) (by decide)) r_8 cl_X15 rfl kx_2285 kx_1922 kx_1923 kx_33 kx_1924 (by decide +kernel) rfl (by decide) (Nat.le_of_ble_eq_true rfl) rfl dX16_doubled_179 rfl (fun z_9 T_9 y_9 => ?_)
    obtain ⟨rfl, u_9, y_9⟩ := y_9
    obtain ⟨v_9, e_9⟩ : ∃ v, v = mM (R 320) (R 320) := ⟨_, rfl⟩
    have c_9 : cvR T_9 (va_up (va_up (va_up (va_up (va_up (va_up (va_up (va_up (va_up R 323 v_1) 324 v_2) 324 v_3) 324 v_4) 325 v_5) 325 v_6) 325 v_7) 325 v_8) 326 v_9) := by rw [e_9]; exact y_9
    have o_9 := u_9.at o_8 (by decide)
    clear y_9
    have p319_9 : T_9.2.2 319 = some (.inr (17, [.ref 320, .ref 321, .ref 322])) := c_9.2.2.2.2.2
    have r_9 := c_9.1.1.1
    refine ks_aload_n dX16_doubled_182 rfl rfl ?_
    refine ks_getf (T := TX16) (kf := 15) kx_2383 rfl in_X16 cl_X16 (by decide) o_9 rfl dX16_doubled_183 rfl ?_
    refine ks_aload_n dX16_doubled_186 rfl rfl ?_
    refine ks_getf (T := TX16) (kf := 25) kx_2393 rfl in_X16 cl_X16 (by decide) o_9 rfl dX16_doubled_187 rfl ?_
    refine ks_aload_n dX16_doubled_190 rfl rfl ?_
    refine ks_getf (T := TX16) (kf := 25) kx_2393 rfl in_X16 cl_X16 (by decide) o_9 rfl dX16_doubled_191 rfl ?_
    refine ks_aload_n dX16_doubled_194 rfl rfl ?_
    refine ks_getf (T := TX16) (kf := 26) kx_2394 rfl in_X16 cl_X16 (by decide) o_9 rfl dX16_doubled_195 rfl ?_
    refine ks_callV (n := 3) (M' := mX15_add) (c_fa (d := d) (a := 326) (b := 326) (t := 327) c_9 (by decide) (by decide) (by decide)) r_9 cl_X15 rfl kx_2286 kx_1862 kx_1863 kx_33 kx_1864 (by decide +kernel) rfl (by decide) (Nat.le_of_ble_eq_true rfl) rfl dX16_doubled_198 rfl (fun z_10 T_10 y_10 => ?_)
    obtain ⟨rfl, u_10, y_10⟩ := y_10
    obtain ⟨v_10, e_10⟩ : ∃ v, v = aM v_9 v_9 := ⟨_, rfl⟩
    have c_10 : cvR T_10 (va_up (va_up (va_up (va_up (va_up (va_up (va_up (va_up (va_up (va_up R 323 v_1) 324 v_2) 324 v_3) 324 v_4) 325 v_5) 325 v_6) 325 v_7) 325 v_8) 326 v_9) 327 v_10) := by rw [e_10]; exact y_10
    have o_10 := u_10.at o_9 (by decide)
    clear y_10
    have p319_10 : T_10.2.2 319 = some (.inr (17, [.ref 320, .ref 321, .ref 322])) := c_10.2.2.2.2.2
    have r_10 := c_10.1.1.1
    refine ks_aload_n dX16_doubled_201 rfl rfl ?_
    refine ks_getf (T := TX16) (kf := 15) kx_2383 rfl in_X16 cl_X16 (by decide) o_10 rfl dX16_doubled_202 rfl ?_
    refine ks_aload_n dX16_doubled_205 rfl rfl ?_
    refine ks_getf (T := TX16) (kf := 25) kx_2393 rfl in_X16 cl_X16 (by decide) o_10 rfl dX16_doubled_206 rfl ?_
    refine ks_aload_n dX16_doubled_209 rfl rfl ?_
    refine ks_getf (T := TX16) (kf := 26) kx_2394 rfl in_X16 cl_X16 (by decide) o_10 rfl dX16_doubled_210 rfl ?_
    refine ks_aload_n dX16_doubled_213 rfl rfl ?_
    refine ks_getf (T := TX16) (kf := 25) kx_2393 rfl in_X16 cl_X16 (by decide) o_10 rfl dX16_doubled_214 rfl ?_
    refine ks_callV (n := 3) (M' := mX15_add) (c_fa (d := d) (a := 326) (b := 327) (t := 326) c_10 (by decide) (by decide) (by decide)) r_10 cl_X15 rfl kx_2286 kx_1862 kx_1863 kx_33 kx_1864 (by decide +kernel) rfl (by decide) (Nat.le_of_ble_eq_true rfl) rfl dX16_doubled_217 rfl (fun z_11 T_11 y_11 => ?_)
    obtain ⟨rfl, u_11, y_11⟩ := y_11
    obtain ⟨v_11, e_11⟩ : ∃ v, v = aM v_9 v_10 := ⟨_, rfl⟩
    have c_11 : cvR T_11 (va_up (va_up (va_up (va_up (va_up (va_up (va_up (va_up (va_up (va_up (va_up R 323 v_1) 324 v_2) 324 v_3) 324 v_4) 325 v_5) 325 v_6) 325 v_7) 325 v_8) 326 v_9) 327 v_10) 326 v_11) := by rw [e_11]; exact y_11
    have o_11 := u_11.at o_10 (by decide)
    clear y_11
    have p319_11 : T_11.2.2 319 = some (.inr (17, [.ref 320, .ref 321, .ref 322])) := c_11.2.2.2.2.2
    have r_11 := c_11.1.1.1
    refine ks_aload_n dX16_doubled_220 rfl rfl ?_
    refine ks_getf (T := TX16) (kf := 15) kx_2383 rfl in_X16 cl_X16 (by decide) o_11 rfl dX16_doubled_221 rfl ?_
    refine ks_aload_n dX16_doubled_224 rfl rfl ?_
    refine ks_getN (T := TX14) (kf := 1) kx_1795 rfl in_X14 cl_X14 (by decide) p319_11 rfl dX16_doubled_225 rfl ?_
    refine ks_aload_n dX16_doubled_228 rfl rfl ?_
    refine ks_getN (T := TX14) (kf := 2) kx_1797 rfl in_X14 cl_X14 (by decide) p319_11 rfl dX16_doubled_229 rfl ?_
    refine ks_aload_n dX16_doubled_232 rfl rfl ?_
    refine ks_getN (T := TX14) (kf := 2) kx_1797 rfl in_X14 cl_X14 (by decide) p319_11 rfl dX16_doubled_233 rfl ?_
    refine ks_callV (n := 3) (M' := mX15_multiply) (c_fm (d := d) (a := 321) (b := 322) (t := 322) c_11 (by decide) (by decide) (by decide)) r_11 cl_X15 rfl kx_2285 kx_1922 kx_1923 kx_33 kx_1924 (by decide +kernel) rfl (by decide) (Nat.le_of_ble_eq_true rfl) rfl dX16_doubled_236 rfl (fun z_12 T_12 y_12 => ?_)
    obtain ⟨rfl, u_12, y_12⟩ := y_12
    obtain ⟨v_12, e_12⟩ : ∃ v, v = mM (R 321) (R 322) := ⟨_, rfl⟩
    have c_12 : cvR T_12 (va_up (va_up (va_up (va_up (va_up (va_up (va_up (va_up (va_up (va_up (va_up (va_up R 323 v_1) 324 v_2) 324 v_3) 324 v_4) 325 v_5) 325 v_6) 325 v_7) 325 v_8) 326 v_9) 327 v_10) 326 v_11) 322 v_12) := by rw [e_12]; exact y_12
    have o_12 := u_12.at o_11 (by decide)
    clear y_12
    have p319_12 : T_12.2.2 319 = some (.inr (17, [.ref 320, .ref 321, .ref 322])) := c_12.2.2.2.2.2
    have r_12 := c_12.1.1.1
    refine ks_aload_n dX16_doubled_239 rfl rfl ?_
    refine ks_getf (T := TX16) (kf := 15) kx_2383 rfl in_X16 cl_X16 (by decide) o_12 rfl dX16_doubled_240 rfl ?_
    refine ks_aload_n dX16_doubled_243 rfl rfl ?_
    refine ks_getN (T := TX14) (kf := 2) kx_1797 rfl in_X14 cl_X14 (by decide) p319_12 rfl dX16_doubled_244 rfl ?_
    refine ks_aload_n dX16_doubled_247 rfl rfl ?_
    refine ks_getN (T := TX14) (kf := 2) kx_1797 rfl in_X14 cl_X14 (by decide) p319_12 rfl dX16_doubled_248 rfl ?_
    refine ks_aload_n dX16_doubled_251 rfl rfl ?_
    refine ks_getN (T := TX14) (kf := 2) kx_1797 rfl in_X14 cl_X14 (by decide) p319_12 rfl dX16_doubled_252 rfl ?_
    refine ks_callV (n := 3) (M' := mX15_add) (c_fa (d := d) (a := 322) (b := 322) (t := 322) c_12 (by decide) (by decide) (by decide)) r_12 cl_X15 rfl kx_2286 kx_1862 kx_1863 kx_33 kx_1864 (by decide +kernel) rfl (by decide) (Nat.le_of_ble_eq_true rfl) rfl dX16_doubled_255 rfl (fun z_13 T_13 y_13 => ?_)
    obtain ⟨rfl, u_13, y_13⟩ := y_13
    obtain ⟨v_13, e_13⟩ : ∃ v, v = aM v_12 v_12 := ⟨_, rfl⟩
    have c_13 : cvR T_13 (va_up (va_up (va_up (va_up (va_up (va_up (va_up (va_up (va_up (va_up (va_up (va_up (va_up R 323 v_1) 324 v_2) 324 v_3) 324 v_4) 325 v_5) 325 v_6) 325 v_7) 325 v_8) 326 v_9) 327 v_10) 326 v_11) 322 v_12) 322 v_13) := by rw [e_13]; exact y_13
    have o_13 := u_13.at o_12 (by decide)
    clear y_13
    have p319_13 : T_13.2.2 319 = some (.inr (17, [.ref 320, .ref 321, .ref 322])) := c_13.2.2.2.2.2
    have r_13 := c_13.1.1.1
    refine ks_aload_n dX16_doubled_258 rfl rfl ?_
    refine ks_getf (T := TX16) (kf := 15) kx_2383 rfl in_X16 cl_X16 (by decide) o_13 rfl dX16_doubled_259 rfl ?_
    refine ks_aload_n dX16_doubled_262 rfl rfl ?_
    refine ks_getf (T := TX16) (kf := 25) kx_2393 rfl in_X16 cl_X16 (by decide) o_13 rfl dX16_doubled_263 rfl ?_
    refine ks_aload_n dX16_doubled_266 rfl rfl ?_
    refine ks_getf (T := TX16) (kf := 25) kx_2393 rfl in_X16 cl_X16 (by decide) o_13 rfl dX16_doubled_267 rfl ?_
    refine ks_aload_n dX16_doubled_270 rfl rfl ?_
    refine ks_getN (T := TX14) (kf := 0) kx_1793 rfl in_X14 cl_X14 (by decide) p319_13 rfl dX16_doubled_271 rfl ?_
    refine ks_callV (n := 3) (M' := mX15_multiply) (c_fm (d := d) (a := 326) (b := 326) (t := 320) c_13 (by decide) (by decide) (by decide)) r_13 cl_X15 rfl kx_2285 kx_1922 kx_1923 kx_33 kx_1924 (by decide +kernel) rfl (by decide) (Nat.le_of_ble_eq_true rfl) rfl dX16_doubled_274 rfl (fun z_14 T_14 y_14 => ?_)
    obtain ⟨rfl, u_14, y_14⟩ := y_14
    obtain ⟨v_14, e_14⟩ : ∃ v, v = mM v_11 v_11 := ⟨_, rfl⟩
    have c_14 : cvR T_14 (va_up (va_up (va_up (va_up (va_up (va_up (va_up (va_up (va_up (va_up (va_up (va_up (va_up (va_up R 323 v_1) 324 v_2) 324 v_3) 324 v_4) 325 v_5) 325 v_6) 325 v_7) 325 v_8) 326 v_9) 327 v_10) 326 v_11) 322 v_12) 322 v_13) 320 v_14) := by rw [e_14]; exact y_14
    have o_14 := u_14.at o_13 (by decide)
    clear y_14
    have p319_14 : T_14.2.2 319 = some (.inr (17, [.ref 320, .ref 321, .ref 322])) := c_14.2.2.2.2.2
    have r_14 := c_14.1.1.1
    refine ks_aload_n dX16_doubled_277 rfl rfl ?_
    refine ks_getf (T := TX16) (kf := 15) kx_2383 rfl in_X16 cl_X16 (by decide) o_14 rfl dX16_doubled_278 rfl ?_
    refine ks_aload_n dX16_doubled_281 rfl rfl ?_
    refine ks_getN (T := TX14) (kf := 0) kx_1793 rfl in_X14 cl_X14 (by decide) p319_14 rfl dX16_doubled_282 rfl ?_
    refine ks_aload_n dX16_doubled_285 rfl rfl ?_
    refine ks_getf (T := TX16) (kf := 23) kx_2391 rfl in_X16 cl_X16 (by decide) o_14 rfl dX16_doubled_286 rfl ?_
    refine ks_aload_n dX16_doubled_289 rfl rfl ?_
    refine ks_getN (T := TX14) (kf := 0) kx_1793 rfl in_X14 cl_X14 (by decide) p319_14 rfl dX16_doubled_290 rfl ?_
    refine ks_callV (n := 3) (M' := mX15_subtract) (c_fs (d := d) (a := 320) (b := 324) (t := 320) c_14 (by decide) (by decide) (by decide)) r_14 cl_X15 rfl kx_2298 kx_2299 kx_2300 kx_33 kx_2301 (by decide +kernel) rfl (by decide) (Nat.le_of_ble_eq_true rfl) rfl dX16_doubled_293 rfl (fun z_15 T_15 y_15 => ?_)
    obtain ⟨rfl, u_15, y_15⟩ := y_15
    obtain ⟨v_15, e_15⟩ : ∃ v, v = sM v_14 v_4 := ⟨_, rfl⟩
    have c_15 : cvR T_15 (va_up (va_up (va_up (va_up (va_up (va_up (va_up (va_up (va_up (va_up (va_up (va_up (va_up (va_up (va_up R 323 v_1) 324 v_2) 324 v_3) 324 v_4) 325 v_5) 325 v_6) 325 v_7) 325 v_8) 326 v_9) 327 v_10) 326 v_11) 322 v_12) 322 v_13) 320 v_14) 320 v_15) := by rw [e_15]; exact y_15
    have o_15 := u_15.at o_14 (by decide)
    clear y_15
    have p319_15 : T_15.2.2 319 = some (.inr (17, [.ref 320, .ref 321, .ref 322])) := c_15.2.2.2.2.2
    have r_15 := c_15.1.1.1
    refine ks_aload_n dX16_doubled_296 rfl rfl ?_
    refine ks_getf (T := TX16) (kf := 15) kx_2383 rfl in_X16 cl_X16 (by decide) o_15 rfl dX16_doubled_297 rfl ?_
    refine ks_aload_n dX16_doubled_300 rfl rfl ?_
    refine ks_getN (T := TX14) (kf := 0) kx_1793 rfl in_X14 cl_X14 (by decide) p319_15 rfl dX16_doubled_301 rfl ?_
    refine ks_aload_n dX16_doubled_304 rfl rfl ?_
    refine ks_getf (T := TX16) (kf := 23) kx_2391 rfl in_X16 cl_X16 (by decide) o_15 rfl dX16_doubled_305 rfl ?_
    refine ks_aload_n dX16_doubled_308 rfl rfl ?_
    refine ks_getN (T := TX14) (kf := 0) kx_1793 rfl in_X14 cl_X14 (by decide) p319_15 rfl dX16_doubled_309 rfl ?_
    refine ks_callV (n := 3) (M' := mX15_subtract) (c_fs (d := d) (a := 320) (b := 324) (t := 320) c_15 (by decide) (by decide) (by decide)) r_15 cl_X15 rfl kx_2298 kx_2299 kx_2300 kx_33 kx_2301 (by decide +kernel) rfl (by decide) (Nat.le_of_ble_eq_true rfl) rfl dX16_doubled_312 rfl (fun z_16 T_16 y_16 => ?_)
    obtain ⟨rfl, u_16, y_16⟩ := y_16
    obtain ⟨v_16, e_16⟩ : ∃ v, v = sM v_15 v_4 := ⟨_, rfl⟩
    have c_16 : cvR T_16 (va_up (va_up (va_up (va_up (va_up (va_up (va_up (va_up (va_up (va_up (va_up (va_up (va_up (va_up (va_up (va_up R 323 v_1) 324 v_2) 324 v_3) 324 v_4) 325 v_5) 325 v_6) 325 v_7) 325 v_8) 326 v_9) 327 v_10) 326 v_11) 322 v_12) 322 v_13) 320 v_14) 320 v_15) 320 v_16) := by rw [e_16]; exact y_16
    have o_16 := u_16.at o_15 (by decide)
    clear y_16
    have p319_16 : T_16.2.2 319 = some (.inr (17, [.ref 320, .ref 321, .ref 322])) := c_16.2.2.2.2.2
    have r_16 := c_16.1.1.1
    refine ks_aload_n dX16_doubled_315 rfl rfl ?_
    refine ks_getf (T := TX16) (kf := 15) kx_2383 rfl in_X16 cl_X16 (by decide) o_16 rfl dX16_doubled_316 rfl ?_
    refine ks_aload_n dX16_doubled_319 rfl rfl ?_
    refine ks_getf (T := TX16) (kf := 23) kx_2391 rfl in_X16 cl_X16 (by decide) o_16 rfl dX16_doubled_320 rfl ?_
    refine ks_aload_n dX16_doubled_323 rfl rfl ?_
    refine ks_getN (T := TX14) (kf := 0) kx_1793 rfl in_X14 cl_X14 (by decide) p319_16 rfl dX16_doubled_324 rfl ?_
    refine ks_aload_n dX16_doubled_327 rfl rfl ?_
    refine ks_getf (T := TX16) (kf := 23) kx_2391 rfl in_X16 cl_X16 (by decide) o_16 rfl dX16_doubled_328 rfl ?_
    refine ks_callV (n := 3) (M' := mX15_subtract) (c_fs (d := d) (a := 324) (b := 320) (t := 324) c_16 (by decide) (by decide) (by decide)) r_16 cl_X15 rfl kx_2298 kx_2299 kx_2300 kx_33 kx_2301 (by decide +kernel) rfl (by decide) (Nat.le_of_ble_eq_true rfl) rfl dX16_doubled_331 rfl (fun z_17 T_17 y_17 => ?_)
    obtain ⟨rfl, u_17, y_17⟩ := y_17
    obtain ⟨v_17, e_17⟩ : ∃ v, v = sM v_4 v_16 := ⟨_, rfl⟩
    have c_17 : cvR T_17 (va_up (va_up (va_up (va_up (va_up (va_up (va_up (va_up (va_up (va_up (va_up (va_up (va_up (va_up (va_up (va_up (va_up R 323 v_1) 324 v_2) 324 v_3) 324 v_4) 325 v_5) 325 v_6) 325 v_7) 325 v_8) 326 v_9) 327 v_10) 326 v_11) 322 v_12) 322 v_13) 320 v_14) 320 v_15) 320 v_16) 324 v_17) := by rw [e_17]; exact y_17
    have o_17 := u_17.at o_16 (by decide)
    clear y_17
    have p319_17 : T_17.2.2 319 = some (.inr (17, [.ref 320, .ref 321, .ref 322])) := c_17.2.2.2.2.2
    have r_17 := c_17.1.1.1
    refine ks_aload_n dX16_doubled_334 rfl rfl ?_
    refine ks_getf (T := TX16) (kf := 15) kx_2383 rfl in_X16 cl_X16 (by decide) o_17 rfl dX16_doubled_335 rfl ?_
    refine ks_aload_n dX16_doubled_338 rfl rfl ?_
    refine ks_getf (T := TX16) (kf := 25) kx_2393 rfl in_X16 cl_X16 (by decide) o_17 rfl dX16_doubled_339 rfl ?_
    refine ks_aload_n dX16_doubled_342 rfl rfl ?_
    refine ks_getf (T := TX16) (kf := 23) kx_2391 rfl in_X16 cl_X16 (by decide) o_17 rfl dX16_doubled_343 rfl ?_
    refine ks_aload_n dX16_doubled_346 rfl rfl ?_
    refine ks_getN (T := TX14) (kf := 1) kx_1795 rfl in_X14 cl_X14 (by decide) p319_17 rfl dX16_doubled_347 rfl ?_
    refine ks_callV (n := 3) (M' := mX15_multiply) (c_fm (d := d) (a := 326) (b := 324) (t := 321) c_17 (by decide) (by decide) (by decide)) r_17 cl_X15 rfl kx_2285 kx_1922 kx_1923 kx_33 kx_1924 (by decide +kernel) rfl (by decide) (Nat.le_of_ble_eq_true rfl) rfl dX16_doubled_350 rfl (fun z_18 T_18 y_18 => ?_)
    obtain ⟨rfl, u_18, y_18⟩ := y_18
    obtain ⟨v_18, e_18⟩ : ∃ v, v = mM v_11 v_17 := ⟨_, rfl⟩
    have c_18 : cvR T_18 (va_up (va_up (va_up (va_up (va_up (va_up (va_up (va_up (va_up (va_up (va_up (va_up (va_up (va_up (va_up (va_up (va_up (va_up R 323 v_1) 324 v_2) 324 v_3) 324 v_4) 325 v_5) 325 v_6) 325 v_7) 325 v_8) 326 v_9) 327 v_10) 326 v_11) 322 v_12) 322 v_13) 320 v_14) 320 v_15) 320 v_16) 324 v_17) 321 v_18) := by rw [e_18]; exact y_18
    have o_18 := u_18.at o_17 (by decide)
    clear y_18
    have p319_18 : T_18.2.2 319 = some (.inr (17, [.ref 320, .ref 321, .ref 322])) := c_18.2.2.2.2.2
    have r_18 := c_18.1.1.1
    refine ks_aload_n dX16_doubled_353 rfl rfl ?_
    refine ks_getf (T := TX16) (kf := 15) kx_2383 rfl in_X16 cl_X16 (by decide) o_18 rfl dX16_doubled_354 rfl ?_
    refine ks_aload_n dX16_doubled_357 rfl rfl ?_
    refine ks_getN (T := TX14) (kf := 1) kx_1795 rfl in_X14 cl_X14 (by decide) p319_18 rfl dX16_doubled_358 rfl ?_
    refine ks_aload_n dX16_doubled_361 rfl rfl ?_
    refine ks_getf (T := TX16) (kf := 24) kx_2392 rfl in_X16 cl_X16 (by decide) o_18 rfl dX16_doubled_362 rfl ?_
    refine ks_aload_n dX16_doubled_365 rfl rfl ?_
    refine ks_getN (T := TX14) (kf := 1) kx_1795 rfl in_X14 cl_X14 (by decide) p319_18 rfl dX16_doubled_366 rfl ?_
    refine ks_callV (n := 3) (M' := mX15_subtract) (c_fs (d := d) (a := 321) (b := 325) (t := 321) c_18 (by decide) (by decide) (by decide)) r_18 cl_X15 rfl kx_2298 kx_2299 kx_2300 kx_33 kx_2301 (by decide +kernel) rfl (by decide) (Nat.le_of_ble_eq_true rfl) rfl dX16_doubled_369 rfl (fun z_19 T_19 y_19 => ?_)
    obtain ⟨rfl, u_19, y_19⟩ := y_19
    obtain ⟨v_19, e_19⟩ : ∃ v, v = sM v_18 v_8 := ⟨_, rfl⟩
    have c_19 : cvR T_19 (va_up (va_up (va_up (va_up (va_up (va_up (va_up (va_up (va_up (va_up (va_up (va_up (va_up (va_up (va_up (va_up (va_up (va_up (va_up R 323 v_1) 324 v_2) 324 v_3) 324 v_4) 325 v_5) 325 v_6) 325 v_7) 325 v_8) 326 v_9) 327 v_10) 326 v_11) 322 v_12) 322 v_13) 320 v_14) 320 v_15) 320 v_16) 324 v_17) 321 v_18) 321 v_19) := by rw [e_19]; exact y_19
    have o_19 := u_19.at o_18 (by decide)
    clear y_19
    have p319_19 : T_19.2.2 319 = some (.inr (17, [.ref 320, .ref 321, .ref 322])) := c_19.2.2.2.2.2
    have r_19 := c_19.1.1.1
    refine ks_ret rfl dX16_doubled_372 ?_
    refine ⟨rfl, (((((((((((((((((((ks_up.rf _ _).trans (u_1.mono (by decide))).trans (u_2.mono (by decide))).trans (u_3.mono (by decide))).trans (u_4.mono (by decide))).trans (u_5.mono (by decide))).trans (u_6.mono (by decide))).trans (u_7.mono (by decide))).trans (u_8.mono (by decide))).trans (u_9.mono (by decide))).trans (u_10.mono (by decide))).trans (u_11.mono (by decide))).trans (u_12.mono (by decide))).trans (u_13.mono (by decide))).trans (u_14.mono (by decide))).trans (u_15.mono (by decide))).trans (u_16.mono (by decide))).trans (u_17.mono (by decide))).trans (u_18.mono (by decide))).trans (u_19.mono (by decide)), _, c_19, ?_, fun k hk hk2 => ?_⟩
    · show (v_16, v_19, v_13) = rfD (ptR R 320)
      have h0 : ¬ R 322 = 0 := of_decide_eq_false h9
      unfold rfD
      rw [if_neg (show ¬ (ptR R 320).2.2 = 0 from h0)]
      show _ = (dbX (R 320) (R 321), dbY (R 320) (R 321), dbZ (R 321) (R 322))
      subst e_1 e_2 e_3 e_4 e_5 e_6 e_7 e_8 e_9 e_10 e_11 e_12 e_13 e_14 e_15 e_16 e_17 e_18 e_19
      unfold dbX dbY dbX dbZ dbM
      rw [rd_S, rd_E, mM_comm (aM _ _) (sM _ _)]
    · rw [va_up_ne _ _ (by omega), va_up_ne _ _ (by omega), va_up_ne _ _ (by omega), va_up_ne _ _ (by omega), va_up_ne _ _ (by omega), va_up_ne _ _ (by omega), va_up_ne _ _ (by omega), va_up_ne _ _ (by omega), va_up_ne _ _ (by omega), va_up_ne _ _ (by omega), va_up_ne _ _ (by omega), va_up_ne _ _ (by omega), va_up_ne _ _ (by omega), va_up_ne _ _ (by omega), va_up_ne _ _ (by omega), va_up_ne _ _ (by omega), va_up_ne _ _ (by omega), va_up_ne _ _ (by omega), va_up_ne _ _ (by omega)]
  · refine ks_ret rfl dX16_doubled_10 ?_
    refine ⟨rfl, ks_up.rf _ _, R, hC, ?_, fun _ _ _ => rfl⟩
    unfold rfD
    rw [if_pos]
    exact of_decide_eq_true h9
