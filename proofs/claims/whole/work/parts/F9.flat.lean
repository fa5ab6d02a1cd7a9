/-! THE REFERENCE: flat points, numbers of bytes -/
theorem cvR.f {S S1 : ks_S} {R : Nat → Nat} {L : List Nat} (h : cvR S R) (hu : ks_up S S1 L) (hL : ∀ x ∈ L, x < 307 ∨ 328 < x) (hF : rgF S1 547 pP muP) : cvR S1 R := by
  have n : ∀ x, 307 ≤ x → x ≤ 328 → x ∉ L := fun x a b q => by have := hL x q; omega
  obtain ⟨h1, h2, h3, h4, h5, h6⟩ := h
  exact ⟨hF, fun k hk => (h2 k hk).up hu (n k (by have := rwL_b k hk; omega) (rwL_b k hk).2.1), hu.at h3 (n _ (by decide) (by decide)), hu.at h4 (n _ (by decide) (by decide)), hu.at h5 (n _ (by decide) (by decide)), hu.at h6 (n _ (by decide) (by decide))⟩
theorem fx_mod (x : Nat) : x % pP * 2 ^ 256 % pP = x * 2 ^ 256 % pP := by rw [Nat.mul_mod, Nat.mod_mod, ← Nat.mul_mod]
theorem fx_out {v : Nat} (hv : v < pP) : (v * 2 ^ 256 % pP) * 1 * riP % pP = v := by rw [mont_out rN_p.2.1, Nat.mod_eq_of_lt hv]
/-- z to the power that turns it over -/
def ivM (z : Nat) : Nat := z ^ (pP - 2) % pP
def rtM (z : Nat) : Nat := z ^ ((pP + 1) / 4) % pP
theorem c_fmX {l : Launch} {G : ks_G} {d : Nat} {S : ks_S} {R : Nat → Nat} {a b t T : Nat} (h : cvR S R) (ha : a ∈ rwL) (hb : b ∈ rwL) (hT : wA S t T) (ht : 329 ≤ t ∧ t ≤ 340) : ks_P l G yX15_multiply mX15_multiply (d + 1) [.ref 547, .ref a, .ref b, .ref t] S (fun z S' => z = none ∧ ks_up S S' [552, t] ∧ cvR S' R ∧ wA S' t (mM (R a) (R b) * 2 ^ 256 % pP)) := by
  have ka := rwL_b a ha
  have kb := rwL_b b hb
  have kB : 600 < ks_B := by decide
  refine (c_rg_mulF h.1 rN_p (h.2.1 a ha).1 (h.2.1 b hb).1 hT ⟨by omega, by omega⟩ ⟨by omega, by omega⟩ ⟨by omega, by omega⟩ (fx_lt _)).mono ?_
  rintro z S' ⟨rfl, hu, hF, hw⟩
  rw [fx_mul] at hw
  exact ⟨rfl, hu, h.f hu (fun x hx => by simp only [List.mem_cons, List.not_mem_nil, or_false] at hx; omega) hF, hw⟩
theorem c_flv {l : Launch} {G : ks_G} {d : Nat} {S : ks_S} {R : Nat → Nat} {t v : Nat} (h : cvR S R) (hT : wA S t (v * 2 ^ 256 % pP)) (hv : v < pP) (ht : 329 ≤ t ∧ t ≤ 340) : ks_P l G yX15_leave mX15_leave (d + 2) [.ref 547, .ref t, .ref t] S (fun z S' => z = none ∧ ks_up S S' [552, t] ∧ cvR S' R ∧ wA S' t v) := by
  have kB : 600 < ks_B := by decide
  refine (c_rg_leave h.1 rN_p hT hT ⟨by omega, by omega⟩ ⟨by omega, by omega⟩).mono ?_
  rintro z S' ⟨rfl, hu, hF, hw⟩
  rw [fx_out hv] at hw
  exact ⟨rfl, hu, h.f hu (fun x hx => by simp only [List.mem_cons, List.not_mem_nil, or_false] at hx; omega) hF, hw⟩
theorem c_flw {l : Launch} {G : ks_G} {d : Nat} {S : ks_S} {R : Nat → Nat} {a t T : Nat} (h : cvR S R) (ha : a ∈ rwL) (hT : wA S t T) (ht : 329 ≤ t ∧ t ≤ 340) : ks_P l G yX15_leave mX15_leave (d + 2) [.ref 547, .ref a, .ref t] S (fun z S' => z = none ∧ ks_up S S' [552, t] ∧ cvR S' R ∧ wA S' t (R a)) := by
  have ka := rwL_b a ha
  have kB : 600 < ks_B := by decide
  refine (c_rg_leave h.1 rN_p (h.2.1 a ha).1 hT ⟨by omega, by omega⟩ ⟨by omega, by omega⟩).mono ?_
  rintro z S' ⟨rfl, hu, hF, hw⟩
  rw [fx_out (h.2.1 a ha).2] at hw
  exact ⟨rfl, hu, h.f hu (fun x hx => by simp only [List.mem_cons, List.not_mem_nil, or_false] at hx; omega) hF, hw⟩
theorem c_fen {l : Launch} {G : ks_G} {d : Nat} {S : ks_S} {R : Nat → Nat} {a t A : Nat} (h : cvR S R) (hA : wA S a A) (ht : t ∈ rwL) (ha : 329 ≤ a ∧ a ≤ 340) : ks_P l G yX15_enter mX15_enter (d + 2) [.ref 547, .ref a, .ref t] S (fun z S' => z = none ∧ ks_up S S' [552, t] ∧ cvR S' (va_up R t (A % pP))) := by
  have kt := rwL_b t ht
  have kB : 600 < ks_B := by decide
  refine (c_rg_enter h.1 rN_p hA (h.2.1 t ht).1 ⟨by omega, by omega⟩ ⟨by omega, by omega⟩).mono ?_
  rintro z S' ⟨rfl, hu, hF, hw⟩
  rw [← fx_mod] at hw
  exact ⟨rfl, hu, h.row ht hu (fun x hx => by simp only [List.mem_cons, List.not_mem_nil, or_false] at hx; omega) hF ⟨hw, Nat.mod_lt _ (by decide)⟩⟩
theorem c_fpM {l : Launch} {G : ks_G} {d : Nat} {S : ks_S} {R : Nat → Nat} {a t : Nat} (h : cvR S R) (ha : a ∈ rwL) (ht : t ∈ rwL) : ks_P l G yX15_power mX15_power (d + 2) [.ref 547, .ref a, .int (-2), .int (nI 0), .ref t] S (fun z S' => z = none ∧ ks_up S S' [552, 553, 554, t] ∧ cvR S' (va_up R t (ivM (R a)))) := by
  have ka := rwL_b a ha
  have kt := rwL_b t ht
  have kB : 600 < ks_B := by decide
  refine (c_rg_powerM h.1 rN_p (by decide +kernel) (h.2.1 a ha).1 (h.2.1 t ht).1 ⟨by omega, by omega⟩ ⟨by omega, by omega⟩).mono ?_
  rintro z S' ⟨rfl, hu, hF, hw⟩
  rw [Nat.pow_zero, Nat.div_one, ← fx_mod] at hw
  exact ⟨rfl, hu, h.row ht hu (fun x hx => by simp only [List.mem_cons, List.not_mem_nil, or_false] at hx; omega) hF ⟨hw, Nat.mod_lt _ (by decide)⟩⟩
theorem c_fpR {l : Launch} {G : ks_G} {d : Nat} {S : ks_S} {R : Nat → Nat} {a t : Nat} (h : cvR S R) (ha : a ∈ rwL) (ht : t ∈ rwL) : ks_P l G yX15_power mX15_power (d + 2) [.ref 547, .ref a, .int (nI 1), .int (nI 2), .ref t] S (fun z S' => z = none ∧ ks_up S S' [552, 553, 554, t] ∧ cvR S' (va_up R t (rtM (R a)))) := by
  have ka := rwL_b a ha
  have kt := rwL_b t ht
  have kB : 600 < ks_B := by decide
  refine (c_rg_powerR h.1 rN_p (by decide +kernel) (h.2.1 a ha).1 (h.2.1 t ht).1 ⟨by omega, by omega⟩ ⟨by omega, by omega⟩).mono ?_
  rintro z S' ⟨rfl, hu, hF, hw⟩
  rw [← fx_mod] at hw
  exact ⟨rfl, hu, h.row ht hu (fun x hx => by simp only [List.mem_cons, List.not_mem_nil, or_false] at hx; omega) hF ⟨hw, Nat.mod_lt _ (by decide)⟩⟩
set_option maxRecDepth 100000 in
set_option maxHeartbeats 800000 in
theorem c_md_flat {l : Launch} {G : ks_G} {d : Nat} {S : ks_S} {V : Nat → Value} {R : Nat → Nat} {X Y : Nat} (hO : S.2.2 290 = some (rfE V)) (hC : cvR S R) (hX : wA S 329 X) (hY : wA S 330 Y) : ks_P l G yX16_flat mX16_flat (d + 3) [.ref 290, .ref 315, .ref 329, .ref 330] S (fun z S' => z = none ∧ ks_up S S' [552, 553, 554, 323, 324, 329, 330] ∧ ∃ R', cvR S' R' ∧ (∀ k, k < 323 → R' k = R k) ∧ wA S' 329 (mM (R 316) (mM (ivM (R 318)) (ivM (R 318)))) ∧ wA S' 330 (mM (R 317) (mM (mM (ivM (R 318)) (ivM (R 318))) (ivM (R 318))))) := by
  have p315_0 : S.2.2 315 = some (.inr (17, [.ref 316, .ref 317, .ref 318])) := hC.2.2.2.2.1
  have r_0 := hC.1.1.1
  refine ks_of (by decide) rfl rfl (Nat.le_of_ble_eq_true rfl) ?_
  show ks_X l G mX16_flat (d + 3) 0 [(0, .ref 290), (1, .ref 315), (2, .ref 329), (3, .ref 330)] [] S _
  refine ks_aload_n dX16_flat_0 rfl rfl ?_
  refine ks_getf (T := TX16) (kf := 15) kx_2383 rfl in_X16 cl_X16 (by decide) hO rfl dX16_flat_1 rfl ?_
  refine ks_aload_n dX16_flat_4 rfl rfl ?_
  refine ks_getN (T := TX14) (kf := 2) kx_1797 rfl in_X14 cl_X14 (by decide) p315_0 rfl dX16_flat_5 rfl ?_
  refine ks_bipush (x := (-2)) dX16_flat_8 (by decide) rfl ?_
  refine ks_iconst (x := nI 0) dX16_flat_10 (by decide) rfl ?_
  refine ks_aload_n dX16_flat_11 rfl rfl ?_
  refine ks_getf (T := TX16) (kf := 22) kx_2390 rfl in_X16 cl_X16 (by decide) hO rfl dX16_flat_12 rfl ?_
  refine ks_callV (n := 4) (M' := mX15_power) (c_fpM (d := d) (a := 318) (t := 323) hC (by decide) (by decide)) r_0 cl_X15 rfl kx_2290 kx_2291 kx_2292 kx_33 kx_2293 (by decide +kernel) rfl (by decide) (Nat.le_of_ble_eq_true rfl) rfl dX16_flat_15 rfl (fun z_1 T_1 y_1 => ?_)
  obtain ⟨rfl, u_1, y_1⟩ := y_1
  obtain ⟨v_1, e_1⟩ : ∃ v, v = ivM (R 318) := ⟨_, rfl⟩
  have c_1 : cvR T_1 (va_up R 323 v_1) := by rw [e_1]; exact y_1
  clear y_1
  have o_1 := u_1.at hO (by decide)
  have p315_1 : T_1.2.2 315 = some (.inr (17, [.ref 316, .ref 317, .ref 318])) := c_1.2.2.2.2.1
  have r_1 := c_1.1.1.1
  refine ks_aload_n dX16_flat_18 rfl rfl ?_
  refine ks_getf (T := TX16) (kf := 15) kx_2383 rfl in_X16 cl_X16 (by decide) o_1 rfl dX16_flat_19 rfl ?_
  refine ks_aload_n dX16_flat_22 rfl rfl ?_
  refine ks_getf (T := TX16) (kf := 22) kx_2390 rfl in_X16 cl_X16 (by decide) o_1 rfl dX16_flat_23 rfl ?_
  refine ks_aload_n dX16_flat_26 rfl rfl ?_
  refine ks_getf (T := TX16) (kf := 22) kx_2390 rfl in_X16 cl_X16 (by decide) o_1 rfl dX16_flat_27 rfl ?_
  refine ks_aload_n dX16_flat_30 rfl rfl ?_
  refine ks_getf (T := TX16) (kf := 23) kx_2391 rfl in_X16 cl_X16 (by decide) o_1 rfl dX16_flat_31 rfl ?_
  refine ks_callV (n := 3) (M' := mX15_multiply) (c_fm (d := (d + 1)) (a := 323) (b := 323) (t := 324) c_1 (by decide) (by decide) (by decide)) r_1 cl_X15 rfl kx_2285 kx_1922 kx_1923 kx_33 kx_1924 (by decide +kernel) rfl (by decide) (Nat.le_of_ble_eq_true rfl) rfl dX16_flat_34 rfl (fun z_2 T_2 y_2 => ?_)
  obtain ⟨rfl, u_2, y_2⟩ := y_2
  obtain ⟨v_2, e_2⟩ : ∃ v, v = mM v_1 v_1 := ⟨_, rfl⟩
  have c_2 : cvR T_2 (va_up (va_up R 323 v_1) 324 v_2) := by rw [e_2]; exact y_2
  have o_2 := u_2.at o_1 (by decide)
  clear y_2
  have p315_2 : T_2.2.2 315 = some (.inr (17, [.ref 316, .ref 317, .ref 318])) := c_2.2.2.2.2.1
  have r_2 := c_2.1.1.1
  refine ks_aload_n dX16_flat_37 rfl rfl ?_
  refine ks_getf (T := TX16) (kf := 15) kx_2383 rfl in_X16 cl_X16 (by decide) o_2 rfl dX16_flat_38 rfl ?_
  refine ks_aload_n dX16_flat_41 rfl rfl ?_
  refine ks_getN (T := TX14) (kf := 0) kx_1793 rfl in_X14 cl_X14 (by decide) p315_2 rfl dX16_flat_42 rfl ?_
  refine ks_aload_n dX16_flat_45 rfl rfl ?_
  refine ks_getf (T := TX16) (kf := 23) kx_2391 rfl in_X16 cl_X16 (by decide) o_2 rfl dX16_flat_46 rfl ?_
  refine ks_aload_n dX16_flat_49 rfl rfl ?_
  have U2 : ks_up S T_2 [552, 553, 554, 323, 324] := (u_1.mono (by decide)).trans (u_2.mono (by decide))
  have x2 := hX.up U2 (by decide)
  have y2 := hY.up U2 (by decide)
  refine ks_callV (n := 3) (M' := mX15_multiply) (c_fmX (d := d + 1) (a := 316) (b := 324) (t := 329) c_2 (by decide) (by decide) x2 (by decide)) r_2 cl_X15 rfl kx_2285 kx_1922 kx_1923 kx_33 kx_1924 (by decide +kernel) rfl (by decide) (Nat.le_of_ble_eq_true rfl) rfl dX16_flat_50 rfl (fun z_3 T_3 y_3 => ?_)
  obtain ⟨rfl, u_3, c_3, w_3⟩ := y_3
  have o_3 := u_3.at o_2 (by decide)
  have p315_3 : T_3.2.2 315 = some (.inr (17, [.ref 316, .ref 317, .ref 318])) := c_3.2.2.2.2.1
  have r_3 := c_3.1.1.1
  refine ks_aload_n dX16_flat_53 rfl rfl ?_
  refine ks_getf (T := TX16) (kf := 15) kx_2383 rfl in_X16 cl_X16 (by decide) o_3 rfl dX16_flat_54 rfl ?_
  refine ks_aload_n dX16_flat_57 rfl rfl ?_
  refine ks_getf (T := TX16) (kf := 23) kx_2391 rfl in_X16 cl_X16 (by decide) o_3 rfl dX16_flat_58 rfl ?_
  refine ks_aload_n dX16_flat_61 rfl rfl ?_
  refine ks_getf (T := TX16) (kf := 22) kx_2390 rfl in_X16 cl_X16 (by decide) o_3 rfl dX16_flat_62 rfl ?_
  refine ks_aload_n dX16_flat_65 rfl rfl ?_
  refine ks_getf (T := TX16) (kf := 23) kx_2391 rfl in_X16 cl_X16 (by decide) o_3 rfl dX16_flat_66 rfl ?_
  refine ks_callV (n := 3) (M' := mX15_multiply) (c_fm (d := (d + 1)) (a := 324) (b := 323) (t := 324) c_3 (by decide) (by decide) (by decide)) r_3 cl_X15 rfl kx_2285 kx_1922 kx_1923 kx_33 kx_1924 (by decide +kernel) rfl (by decide) (Nat.le_of_ble_eq_true rfl) rfl dX16_flat_69 rfl (fun z_4 T_4 y_4 => ?_)
  obtain ⟨rfl, u_4, y_4⟩ := y_4
  obtain ⟨v_4, e_4⟩ : ∃ v, v = mM v_2 v_1 := ⟨_, rfl⟩
  have c_4 : cvR T_4 (va_up (va_up (va_up R 323 v_1) 324 v_2) 324 v_4) := by rw [e_4]; exact y_4
  have o_4 := u_4.at o_3 (by decide)
  clear y_4
  have p315_4 : T_4.2.2 315 = some (.inr (17, [.ref 316, .ref 317, .ref 318])) := c_4.2.2.2.2.1
  have r_4 := c_4.1.1.1
  have y4 := (y2.up u_3 (by decide)).up u_4 (by decide)
  have x4 := w_3.up u_4 (by decide)
  refine ks_aload_n dX16_flat_72 rfl rfl ?_
  refine ks_getf (T := TX16) (kf := 15) kx_2383 rfl in_X16 cl_X16 (by decide) o_4 rfl dX16_flat_73 rfl ?_
  refine ks_aload_n dX16_flat_76 rfl rfl ?_
  refine ks_getN (T := TX14) (kf := 1) kx_1795 rfl in_X14 cl_X14 (by decide) p315_4 rfl dX16_flat_77 rfl ?_
  refine ks_aload_n dX16_flat_80 rfl rfl ?_
  refine ks_getf (T := TX16) (kf := 23) kx_2391 rfl in_X16 cl_X16 (by decide) o_4 rfl dX16_flat_81 rfl ?_
  refine ks_aload_n dX16_flat_84 rfl rfl ?_
  refine ks_callV (n := 3) (M' := mX15_multiply) (c_fmX (d := d + 1) (a := 317) (b := 324) (t := 330) c_4 (by decide) (by decide) y4 (by decide)) r_4 cl_X15 rfl kx_2285 kx_1922 kx_1923 kx_33 kx_1924 (by decide +kernel) rfl (by decide) (Nat.le_of_ble_eq_true rfl) rfl dX16_flat_85 rfl (fun z_5 T_5 y_5 => ?_)
  obtain ⟨rfl, u_5, c_5, w_5⟩ := y_5
  have o_5 := u_5.at o_4 (by decide)
  have p315_5 : T_5.2.2 315 = some (.inr (17, [.ref 316, .ref 317, .ref 318])) := c_5.2.2.2.2.1
  have r_5 := c_5.1.1.1
  have x5 := x4.up u_5 (by decide)
  refine ks_aload_n dX16_flat_88 rfl rfl ?_
  refine ks_getf (T := TX16) (kf := 15) kx_2383 rfl in_X16 cl_X16 (by decide) o_5 rfl dX16_flat_89 rfl ?_
  refine ks_aload_n dX16_flat_92 rfl rfl ?_
  refine ks_aload_n dX16_flat_93 rfl rfl ?_
  refine ks_callV (n := 2) (M' := mX15_leave) (c_flv (d := d) (t := 329) c_5 x5 (mM_lt _ _) (by decide)) r_5 cl_X15 rfl kx_2294 kx_2295 kx_2296 kx_33 kx_2297 (by decide +kernel) rfl (by decide) (Nat.le_of_ble_eq_true rfl) rfl dX16_flat_94 rfl (fun z_6 T_6 y_6 => ?_)
  obtain ⟨rfl, u_6, c_6, w_6⟩ := y_6
  have o_6 := u_6.at o_5 (by decide)
  have p315_6 : T_6.2.2 315 = some (.inr (17, [.ref 316, .ref 317, .ref 318])) := c_6.2.2.2.2.1
  have r_6 := c_6.1.1.1
  have y6 := w_5.up u_6 (by decide)
  refine ks_aload_n dX16_flat_97 rfl rfl ?_
  refine ks_getf (T := TX16) (kf := 15) kx_2383 rfl in_X16 cl_X16 (by decide) o_6 rfl dX16_flat_98 rfl ?_
  refine ks_aload_n dX16_flat_101 rfl rfl ?_
  refine ks_aload_n dX16_flat_102 rfl rfl ?_
  refine ks_callV (n := 2) (M' := mX15_leave) (c_flv (d := d) (t := 330) c_6 y6 (mM_lt _ _) (by decide)) r_6 cl_X15 rfl kx_2294 kx_2295 kx_2296 kx_33 kx_2297 (by decide +kernel) rfl (by decide) (Nat.le_of_ble_eq_true rfl) rfl dX16_flat_103 rfl (fun z_7 T_7 y_7 => ?_)
  obtain ⟨rfl, u_7, c_7, w_7⟩ := y_7
  have o_7 := u_7.at o_6 (by decide)
  have p315_7 : T_7.2.2 315 = some (.inr (17, [.ref 316, .ref 317, .ref 318])) := c_7.2.2.2.2.1
  have r_7 := c_7.1.1.1
  refine ks_ret rfl dX16_flat_106 ?_
  have hx := w_6.up u_7 (by decide)
  refine ⟨rfl, (((((U2.mono (by decide)).trans (u_3.mono (by decide))).trans (u_4.mono (by decide))).trans (u_5.mono (by decide))).trans (u_6.mono (by decide))).trans (u_7.mono (by decide)), _, c_7, fun k hk => ?_, ?_, ?_⟩
  · rw [va_up_ne _ _ (by omega), va_up_ne _ _ (by omega), va_up_ne _ _ (by omega)]
  · rw [← e_1, ← e_2]
    exact hx
  · rw [← e_1, ← e_2, ← e_4]
    exact w_7
set_option maxRecDepth 100000 in
set_option maxHeartbeats 800000 in
theorem c_md_fromH {l : Launch} {G : ks_G} {d : Nat} {S : ks_S} {y N a t T : Nat} {g : Nat → Nat} (hy : S.2.2 y = some (kB N g)) (kg : kO g) (han : a + 32 ≤ N) (hN : N < 2 ^ 28) (hT : wA S t T) (ht9 : t < ks_B) : ks_P l G yX16_fromBytes mX16_fromBytes d [.ref y, .int (nI a), .int (ks_bo true), .ref t] S (fun z S' => z = none ∧ ks_up S S' [t] ∧ wA S' t (dg 256 (fbF true g a) 32)) := by
  obtain ⟨gt, egt, bgt, -⟩ := hT
  have yt : y ≠ t := ks_ne hy egt (fun e => by cases e)
  have loop : ∀ (u i : Nat) (S1 : ks_S) (g1 : Nat → Nat), i + u = 8 → ks_up S S1 [t] → S1.2.2 t = some (kN 8 g1) → (∀ j, j < i → g1 j = dg 256 (fun k => fbF true g a (4 * j + k)) 4) → ks_X l G mX16_fromBytes d 3 [(0, .ref y), (1, .int (nI a)), (2, .int (ks_bo true)), (3, .ref t), (4, .int (nI i))] [] S1 (fun z S' => z = none ∧ ks_up S S' [t] ∧ wA S' t (dg 256 (fbF true g a) 32)) := by
    intro u
    induction u with
    | zero =>
      intro i S1 g1 hi hu e1 hg
      have ey := hu.at hy (by rw [List.mem_singleton]; exact yt)
      obtain rfl : i = 8 := hi
      refine ks_iload dX16_fromBytes_3 rfl rfl ?_
      refine ks_bipush (x := nI 8) dX16_fromBytes_5 (by decide) rfl ?_
      refine ks_icmp_geN (tgt := 79) (by decide) (by decide) dX16_fromBytes_7 (by decide) rfl (fun _ => ?_) (fun h => absurd h (by decide))
      refine ks_ret rfl dX16_fromBytes_79 ?_
      have hb : ∀ j, j < 8 → g1 j < 4294967296 := fun j hj => by
        rw [hg j hj]
        exact dg_lt (B := 256) (n := 4) (fun k _ => by unfold fbF; split <;> exact kg _)
      refine ⟨rfl, hu, g1, e1, hb, ?_⟩
      rw [dg_congr hg]
      exact dg_grp 256 (fbF true g a) 8
    | succ u ih =>
      intro i S1 g1 hi hu e1 hg
      have ey := hu.at hy (by rw [List.mem_singleton]; exact yt)
      have i8 : i < 8 := by omega
      refine ks_iload dX16_fromBytes_3 rfl rfl ?_
      refine ks_bipush (x := nI 8) dX16_fromBytes_5 (by decide) rfl ?_
      refine ks_icmp_geN (tgt := 79) (by omega) (by decide) dX16_fromBytes_7 (by decide) rfl (fun h1 => absurd h1 (by omega)) (fun h1 => ?_)
      refine ks_iconst (x := nI 0) dX16_fromBytes_10 (by decide) rfl ?_
      refine ks_istore dX16_fromBytes_11 (by decide) rfl ?_
      refine ks_sub [(5, _), (0, _), (1, _), (2, _), (3, _), (4, _)] rfl ?_
      refine ks_iconst (x := nI 3) dX16_fromBytes_13 (by decide) rfl ?_
      refine ks_istore dX16_fromBytes_14 (by decide) rfl ?_
      refine ks_sub [(6, _), (0, _), (1, _), (2, _), (3, _), (4, _), (5, _)] rfl ?_
      refine ks_iload dX16_fromBytes_16 rfl rfl ?_
      refine ks_if_ltN (tgt := 67) (by decide) dX16_fromBytes_18 (by decide) rfl ?_
      refine ks_iload dX16_fromBytes_21 rfl rfl ?_
      refine ks_bipush (x := nI 8) dX16_fromBytes_23 (by decide) rfl ?_
      refine ks_shlN (k := 8) (by decide) (by omega) dX16_fromBytes_25 rfl ?_
      refine ks_aload_n dX16_fromBytes_26 rfl rfl ?_
      refine ks_iload_n dX16_fromBytes_27 rfl rfl ?_
      refine ks_iload_n dX16_fromBytes_28 rfl rfl ?_
      refine ks_if_eqZ (tgt := 45) dX16_fromBytes_29 (by decide) rfl (fun h => absurd h (by decide)) (fun _ => ?_)
      refine ks_bipush (x := nI 31) dX16_fromBytes_32 (by decide) rfl ?_
      refine ks_iconst (x := nI 4) dX16_fromBytes_34 (by decide) rfl ?_
      refine ks_iload dX16_fromBytes_35 rfl rfl ?_
      refine ks_mulN dX16_fromBytes_37 rfl ?_
      refine ks_subN (by omega) dX16_fromBytes_38 rfl ?_
      refine ks_iload dX16_fromBytes_39 rfl rfl ?_
      refine ks_subN (by omega) dX16_fromBytes_41 rfl ?_
      refine ks_goto (tgt := 52) dX16_fromBytes_42 (by decide) ?_
      refine ks_addN dX16_fromBytes_52 rfl ?_
      refine ks_baldB (i := a + (31 - (4 * i) - 3)) ey rfl (by omega) (by omega) dX16_fromBytes_53 rfl ?_
      refine ks_sipush (x := nI 255) dX16_fromBytes_54 (by decide) rfl ?_
      refine ks_andB (kg _) dX16_fromBytes_57 rfl ?_
      have hy57 : g (a + (31 - (4 * i) - 3)) < 256 := (kg _)
      refine ks_or2 (a := 0) (k := 8) (by omega) (by omega) dX16_fromBytes_58 rfl ?_
      refine ks_istore dX16_fromBytes_59 (by decide) rfl ?_
      refine ks_sub [(5, _), (0, _), (1, _), (2, _), (3, _), (4, _), (6, _)] rfl ?_
      refine ks_decN (e := 2) dX16_fromBytes_61 rfl (by decide) (by omega) (by decide) rfl ?_
      refine ks_sub [(6, _), (0, _), (1, _), (2, _), (3, _), (4, _), (5, _)] rfl ?_
      refine ks_goto (tgt := 16) dX16_fromBytes_64 (by decide) ?_
      refine ks_iload dX16_fromBytes_16 rfl rfl ?_
      refine ks_if_ltN (tgt := 67) (by decide) dX16_fromBytes_18 (by decide) rfl ?_
      refine ks_iload dX16_fromBytes_21 rfl rfl ?_
      refine ks_bipush (x := nI 8) dX16_fromBytes_23 (by decide) rfl ?_
      refine ks_shlN (k := 8) (by decide) (by omega) dX16_fromBytes_25 rfl ?_
      refine ks_aload_n dX16_fromBytes_26 rfl rfl ?_
      refine ks_iload_n dX16_fromBytes_27 rfl rfl ?_
      refine ks_iload_n dX16_fromBytes_28 rfl rfl ?_
      refine ks_if_eqZ (tgt := 45) dX16_fromBytes_29 (by decide) rfl (fun h => absurd h (by decide)) (fun _ => ?_)
      refine ks_bipush (x := nI 31) dX16_fromBytes_32 (by decide) rfl ?_
      refine ks_iconst (x := nI 4) dX16_fromBytes_34 (by decide) rfl ?_
      refine ks_iload dX16_fromBytes_35 rfl rfl ?_
      refine ks_mulN dX16_fromBytes_37 rfl ?_
      refine ks_subN (by omega) dX16_fromBytes_38 rfl ?_
      refine ks_iload dX16_fromBytes_39 rfl rfl ?_
      refine ks_subN (by omega) dX16_fromBytes_41 rfl ?_
      refine ks_goto (tgt := 52) dX16_fromBytes_42 (by decide) ?_
      refine ks_addN dX16_fromBytes_52 rfl ?_
      refine ks_baldB (i := a + (31 - (4 * i) - 2)) ey rfl (by omega) (by omega) dX16_fromBytes_53 rfl ?_
      refine ks_sipush (x := nI 255) dX16_fromBytes_54 (by decide) rfl ?_
      refine ks_andB (kg _) dX16_fromBytes_57 rfl ?_
      have hy57 : g (a + (31 - (4 * i) - 2)) < 256 := (kg _)
      refine ks_or2 (a := (0 * 2 ^ 8 + (g (a + (31 - (4 * i) - 3))))) (k := 8) (by omega) (by omega) dX16_fromBytes_58 rfl ?_
      refine ks_istore dX16_fromBytes_59 (by decide) rfl ?_
      refine ks_sub [(5, _), (0, _), (1, _), (2, _), (3, _), (4, _), (6, _)] rfl ?_
      refine ks_decN (e := 1) dX16_fromBytes_61 rfl (by decide) (by omega) (by decide) rfl ?_
      refine ks_sub [(6, _), (0, _), (1, _), (2, _), (3, _), (4, _), (5, _)] rfl ?_
      refine ks_goto (tgt := 16) dX16_fromBytes_64 (by decide) ?_
      refine ks_iload dX16_fromBytes_16 rfl rfl ?_
      refine ks_if_ltN (tgt := 67) (by decide) dX16_fromBytes_18 (by decide) rfl ?_
      refine ks_iload dX16_fromBytes_21 rfl rfl ?_
      refine ks_bipush (x := nI 8) dX16_fromBytes_23 (by decide) rfl ?_
      refine ks_shlN (k := 8) (by decide) (by omega) dX16_fromBytes_25 rfl ?_
      refine ks_aload_n dX16_fromBytes_26 rfl rfl ?_
      refine ks_iload_n dX16_fromBytes_27 rfl rfl ?_
      refine ks_iload_n dX16_fromBytes_28 rfl rfl ?_
      refine ks_if_eqZ (tgt := 45) dX16_fromBytes_29 (by decide) rfl (fun h => absurd h (by decide)) (fun _ => ?_)
      refine ks_bipush (x := nI 31) dX16_fromBytes_32 (by decide) rfl ?_
      refine ks_iconst (x := nI 4) dX16_fromBytes_34 (by decide) rfl ?_
      refine ks_iload dX16_fromBytes_35 rfl rfl ?_
      refine ks_mulN dX16_fromBytes_37 rfl ?_
      refine ks_subN (by omega) dX16_fromBytes_38 rfl ?_
      refine ks_iload dX16_fromBytes_39 rfl rfl ?_
      refine ks_subN (by omega) dX16_fromBytes_41 rfl ?_
      refine ks_goto (tgt := 52) dX16_fromBytes_42 (by decide) ?_
      refine ks_addN dX16_fromBytes_52 rfl ?_
      refine ks_baldB (i := a + (31 - (4 * i) - 1)) ey rfl (by omega) (by omega) dX16_fromBytes_53 rfl ?_
      refine ks_sipush (x := nI 255) dX16_fromBytes_54 (by decide) rfl ?_
      refine ks_andB (kg _) dX16_fromBytes_57 rfl ?_
      have hy57 : g (a + (31 - (4 * i) - 1)) < 256 := (kg _)
      refine ks_or2 (a := ((0 * 2 ^ 8 + (g (a + (31 - (4 * i) - 3)))) * 2 ^ 8 + (g (a + (31 - (4 * i) - 2))))) (k := 8) (by omega) (by omega) dX16_fromBytes_58 rfl ?_
      refine ks_istore dX16_fromBytes_59 (by decide) rfl ?_
      refine ks_sub [(5, _), (0, _), (1, _), (2, _), (3, _), (4, _), (6, _)] rfl ?_
      refine ks_decN (e := 0) dX16_fromBytes_61 rfl (by decide) (by omega) (by decide) rfl ?_
      refine ks_sub [(6, _), (0, _), (1, _), (2, _), (3, _), (4, _), (5, _)] rfl ?_
      refine ks_goto (tgt := 16) dX16_fromBytes_64 (by decide) ?_
      refine ks_iload dX16_fromBytes_16 rfl rfl ?_
      refine ks_if_ltN (tgt := 67) (by decide) dX16_fromBytes_18 (by decide) rfl ?_
      refine ks_iload dX16_fromBytes_21 rfl rfl ?_
      refine ks_bipush (x := nI 8) dX16_fromBytes_23 (by decide) rfl ?_
      refine ks_shlN (k := 8) (by decide) (by omega) dX16_fromBytes_25 rfl ?_
      refine ks_aload_n dX16_fromBytes_26 rfl rfl ?_
      refine ks_iload_n dX16_fromBytes_27 rfl rfl ?_
      refine ks_iload_n dX16_fromBytes_28 rfl rfl ?_
      refine ks_if_eqZ (tgt := 45) dX16_fromBytes_29 (by decide) rfl (fun h => absurd h (by decide)) (fun _ => ?_)
      refine ks_bipush (x := nI 31) dX16_fromBytes_32 (by decide) rfl ?_
      refine ks_iconst (x := nI 4) dX16_fromBytes_34 (by decide) rfl ?_
      refine ks_iload dX16_fromBytes_35 rfl rfl ?_
      refine ks_mulN dX16_fromBytes_37 rfl ?_
      refine ks_subN (by omega) dX16_fromBytes_38 rfl ?_
      refine ks_iload dX16_fromBytes_39 rfl rfl ?_
      refine ks_subN (by omega) dX16_fromBytes_41 rfl ?_
      refine ks_goto (tgt := 52) dX16_fromBytes_42 (by decide) ?_
      refine ks_addN dX16_fromBytes_52 rfl ?_
      refine ks_baldB (i := a + (31 - (4 * i) - 0)) ey rfl (by omega) (by omega) dX16_fromBytes_53 rfl ?_
      refine ks_sipush (x := nI 255) dX16_fromBytes_54 (by decide) rfl ?_
      refine ks_andB (kg _) dX16_fromBytes_57 rfl ?_
      have hy57 : g (a + (31 - (4 * i) - 0)) < 256 := (kg _)
      refine ks_or2 (a := (((0 * 2 ^ 8 + (g (a + (31 - (4 * i) - 3)))) * 2 ^ 8 + (g (a + (31 - (4 * i) - 2)))) * 2 ^ 8 + (g (a + (31 - (4 * i) - 1))))) (k := 8) (by omega) (by omega) dX16_fromBytes_58 rfl ?_
      refine ks_istore dX16_fromBytes_59 (by decide) rfl ?_
      refine ks_sub [(5, _), (0, _), (1, _), (2, _), (3, _), (4, _), (6, _)] rfl ?_
      refine ks_incD dX16_fromBytes_61 rfl (by decide) (by decide) rfl ?_
      refine ks_sub [(6, _), (0, _), (1, _), (2, _), (3, _), (4, _), (5, _)] rfl ?_
      refine ks_goto (tgt := 16) dX16_fromBytes_64 (by decide) ?_
      refine ks_iload dX16_fromBytes_16 rfl rfl ?_
      refine ks_if_ltD (tgt := 67) (by omega) dX16_fromBytes_18 (by decide) rfl (fun _ => ?_) (fun h => absurd rfl h)
      refine ks_aload_n dX16_fromBytes_67 rfl rfl ?_
      refine ks_iload dX16_fromBytes_68 rfl rfl ?_
      refine ks_iload dX16_fromBytes_70 rfl rfl ?_
      refine ks_iastNN (i := i) (v := (((0 * 2 ^ 8 + (g (a + (31 - (4 * i) - 3)))) * 2 ^ 8 + (g (a + (31 - (4 * i) - 2)))) * 2 ^ 8 + (g (a + (31 - (4 * i) - 1)))) * 2 ^ 8 + (g (a + (31 - (4 * i) - 0)))) ht9 e1 (by omega) (by decide) dX16_fromBytes_72 rfl ?_
      refine ks_incN (c := 1) (e := i + 1) dX16_fromBytes_73 rfl (by decide) rfl (by decide) rfl ?_
      refine ks_sub [(4, _), (0, _), (1, _), (2, _), (3, _), (5, _), (6, _)] rfl ?_
      refine ks_goto (tgt := 3) dX16_fromBytes_76 (by decide) ?_
      refine ks_sub [(0, _), (1, _), (2, _), (3, _), (4, _)] rfl (ih (i + 1) _ _ (by omega) (hu.trans (ks_up_set _ _ (List.mem_singleton.mpr rfl))) (ks_set_same _ _ _) (fun j hj => ?_))
      by_cases e : j = i
      · subst e
        rw [va_up_self, dgW4]
        unfold fbF
        simp only [Nat.add_zero, if_true, if_false]
        rw [show a + 31 - (4 * j + 3) = a + (31 - 4 * j - 3) by omega, show a + 31 - (4 * j + 2) = a + (31 - 4 * j - 2) by omega, show a + 31 - (4 * j + 1) = a + (31 - 4 * j - 1) by omega, show a + 31 - 4 * j = a + (31 - 4 * j - 0) by omega]
      · rw [va_up_ne _ _ e]; exact hg j (by omega)
  refine ks_of (by decide) rfl rfl (Nat.le_of_ble_eq_true rfl) ?_
  show ks_X l G mX16_fromBytes d 0 [(0, .ref y), (1, .int (nI a)), (2, .int (ks_bo true)), (3, .ref t)] [] S _
  refine ks_iconst (x := nI 0) dX16_fromBytes_0 (by decide) rfl ?_
  refine ks_istore dX16_fromBytes_1 (by decide) rfl ?_
  refine ks_sub [(4, _), (0, _), (1, _), (2, _), (3, _)] rfl ?_
  exact ks_sub [(0, _), (1, _), (2, _), (3, _), (4, _)] rfl (loop 8 0 S gt rfl (ks_up.rf _ _) egt (fun j hj => absurd hj (Nat.not_lt_zero j)))
set_option maxRecDepth 100000 in
set_option maxHeartbeats 800000 in
theorem c_md_fromL {l : Launch} {G : ks_G} {d : Nat} {S : ks_S} {y N a t T : Nat} {g : Nat → Nat} (hy : S.2.2 y = some (kB N g)) (kg : kO g) (han : a + 32 ≤ N) (hN : N < 2 ^ 28) (hT : wA S t T) (ht9 : t < ks_B) : ks_P l G yX16_fromBytes mX16_fromBytes d [.ref y, .int (nI a), .int (ks_bo false), .ref t] S (fun z S' => z = none ∧ ks_up S S' [t] ∧ wA S' t (dg 256 (fbF false g a) 32)) := by
  obtain ⟨gt, egt, bgt, -⟩ := hT
  have yt : y ≠ t := ks_ne hy egt (fun e => by cases e)
  have loop : ∀ (u i : Nat) (S1 : ks_S) (g1 : Nat → Nat), i + u = 8 → ks_up S S1 [t] → S1.2.2 t = some (kN 8 g1) → (∀ j, j < i → g1 j = dg 256 (fun k => fbF false g a (4 * j + k)) 4) → ks_X l G mX16_fromBytes d 3 [(0, .ref y), (1, .int (nI a)), (2, .int (ks_bo false)), (3, .ref t), (4, .int (nI i))] [] S1 (fun z S' => z = none ∧ ks_up S S' [t] ∧ wA S' t (dg 256 (fbF false g a) 32)) := by
    intro u
    induction u with
    | zero =>
      intro i S1 g1 hi hu e1 hg
      have ey := hu.at hy (by rw [List.mem_singleton]; exact yt)
      obtain rfl : i = 8 := hi
      refine ks_iload dX16_fromBytes_3 rfl rfl ?_
      refine ks_bipush (x := nI 8) dX16_fromBytes_5 (by decide) rfl ?_
      refine ks_icmp_geN (tgt := 79) (by decide) (by decide) dX16_fromBytes_7 (by decide) rfl (fun _ => ?_) (fun h => absurd h (by decide))
      refine ks_ret rfl dX16_fromBytes_79 ?_
      have hb : ∀ j, j < 8 → g1 j < 4294967296 := fun j hj => by
        rw [hg j hj]
        exact dg_lt (B := 256) (n := 4) (fun k _ => by unfold fbF; split <;> exact kg _)
      refine ⟨rfl, hu, g1, e1, hb, ?_⟩
      rw [dg_congr hg]
      exact dg_grp 256 (fbF false g a) 8
    | succ u ih =>
      intro i S1 g1 hi hu e1 hg
      have ey := hu.at hy (by rw [List.mem_singleton]; exact yt)
      have i8 : i < 8 := by omega
      refine ks_iload dX16_fromBytes_3 rfl rfl ?_
      refine ks_bipush (x := nI 8) dX16_fromBytes_5 (by decide) rfl ?_
      refine ks_icmp_geN (tgt := 79) (by omega) (by decide) dX16_fromBytes_7 (by decide) rfl (fun h1 => absurd h1 (by omega)) (fun h1 => ?_)
      refine ks_iconst (x := nI 0) dX16_fromBytes_10 (by decide) rfl ?_
      refine ks_istore dX16_fromBytes_11 (by decide) rfl ?_
      refine ks_sub [(5, _), (0, _), (1, _), (2, _), (3, _), (4, _)] rfl ?_
      refine ks_iconst (x := nI 3) dX16_fromBytes_13 (by decide) rfl ?_
      refine ks_istore dX16_fromBytes_14 (by decide) rfl ?_
      refine ks_sub [(6, _), (0, _), (1, _), (2, _), (3, _), (4, _), (5, _)] rfl ?_
      refine ks_iload dX16_fromBytes_16 rfl rfl ?_
      refine ks_if_ltN (tgt := 67) (by decide) dX16_fromBytes_18 (by decide) rfl ?_
      refine ks_iload dX16_fromBytes_21 rfl rfl ?_
      refine ks_bipush (x := nI 8) dX16_fromBytes_23 (by decide) rfl ?_
      refine ks_shlN (k := 8) (by decide) (by omega) dX16_fromBytes_25 rfl ?_
      refine ks_aload_n dX16_fromBytes_26 rfl rfl ?_
      refine ks_iload_n dX16_fromBytes_27 rfl rfl ?_
      refine ks_iload_n dX16_fromBytes_28 rfl rfl ?_
      refine ks_if_eqZ (tgt := 45) dX16_fromBytes_29 (by decide) rfl (fun _ => ?_) (fun h => absurd h (by decide))
      refine ks_iconst (x := nI 4) dX16_fromBytes_45 (by decide) rfl ?_
      refine ks_iload dX16_fromBytes_46 rfl rfl ?_
      refine ks_mulN dX16_fromBytes_48 rfl ?_
      refine ks_iload dX16_fromBytes_49 rfl rfl ?_
      refine ks_addN dX16_fromBytes_51 rfl ?_
      refine ks_addN dX16_fromBytes_52 rfl ?_
      refine ks_baldB (i := a + (4 * i + 3)) ey rfl (by omega) (by omega) dX16_fromBytes_53 rfl ?_
      refine ks_sipush (x := nI 255) dX16_fromBytes_54 (by decide) rfl ?_
      refine ks_andB (kg _) dX16_fromBytes_57 rfl ?_
      have hy57 : g (a + (4 * i + 3)) < 256 := (kg _)
      refine ks_or2 (a := 0) (k := 8) (by omega) (by omega) dX16_fromBytes_58 rfl ?_
      refine ks_istore dX16_fromBytes_59 (by decide) rfl ?_
      refine ks_sub [(5, _), (0, _), (1, _), (2, _), (3, _), (4, _), (6, _)] rfl ?_
      refine ks_decN (e := 2) dX16_fromBytes_61 rfl (by decide) (by omega) (by decide) rfl ?_
      refine ks_sub [(6, _), (0, _), (1, _), (2, _), (3, _), (4, _), (5, _)] rfl ?_
      refine ks_goto (tgt := 16) dX16_fromBytes_64 (by decide) ?_
      refine ks_iload dX16_fromBytes_16 rfl rfl ?_
      refine ks_if_ltN (tgt := 67) (by decide) dX16_fromBytes_18 (by decide) rfl ?_
      refine ks_iload dX16_fromBytes_21 rfl rfl ?_
      refine ks_bipush (x := nI 8) dX16_fromBytes_23 (by decide) rfl ?_
      refine ks_shlN (k := 8) (by decide) (by omega) dX16_fromBytes_25 rfl ?_
      refine ks_aload_n dX16_fromBytes_26 rfl rfl ?_
      refine ks_iload_n dX16_fromBytes_27 rfl rfl ?_
      refine ks_iload_n dX16_fromBytes_28 rfl rfl ?_
      refine ks_if_eqZ (tgt := 45) dX16_fromBytes_29 (by decide) rfl (fun _ => ?_) (fun h => absurd h (by decide))
      refine ks_iconst (x := nI 4) dX16_fromBytes_45 (by decide) rfl ?_
      refine ks_iload dX16_fromBytes_46 rfl rfl ?_
      refine ks_mulN dX16_fromBytes_48 rfl ?_
      refine ks_iload dX16_fromBytes_49 rfl rfl ?_
      refine ks_addN dX16_fromBytes_51 rfl ?_
      refine ks_addN dX16_fromBytes_52 rfl ?_
      refine ks_baldB (i := a + (4 * i + 2)) ey rfl (by omega) (by omega) dX16_fromBytes_53 rfl ?_
      refine ks_sipush (x := nI 255) dX16_fromBytes_54 (by decide) rfl ?_
      refine ks_andB (kg _) dX16_fromBytes_57 rfl ?_
      have hy57 : g (a + (4 * i + 2)) < 256 := (kg _)
      refine ks_or2 (a := (0 * 2 ^ 8 + (g (a + (4 * i + 3))))) (k := 8) (by omega) (by omega) dX16_fromBytes_58 rfl ?_
      refine ks_istore dX16_fromBytes_59 (by decide) rfl ?_
      refine ks_sub [(5, _), (0, _), (1, _), (2, _), (3, _), (4, _), (6, _)] rfl ?_
      refine ks_decN (e := 1) dX16_fromBytes_61 rfl (by decide) (by omega) (by decide) rfl ?_
      refine ks_sub [(6, _), (0, _), (1, _), (2, _), (3, _), (4, _), (5, _)] rfl ?_
      refine ks_goto (tgt := 16) dX16_fromBytes_64 (by decide) ?_
      refine ks_iload dX16_fromBytes_16 rfl rfl ?_
      refine ks_if_ltN (tgt := 67) (by decide) dX16_fromBytes_18 (by decide) rfl ?_
      refine ks_iload dX16_fromBytes_21 rfl rfl ?_
      refine ks_bipush (x := nI 8) dX16_fromBytes_23 (by decide) rfl ?_
      refine ks_shlN (k := 8) (by decide) (by omega) dX16_fromBytes_25 rfl ?_
      refine ks_aload_n dX16_fromBytes_26 rfl rfl ?_
      refine ks_iload_n dX16_fromBytes_27 rfl rfl ?_
      refine ks_iload_n dX16_fromBytes_28 rfl rfl ?_
      refine ks_if_eqZ (tgt := 45) dX16_fromBytes_29 (by decide) rfl (fun _ => ?_) (fun h => absurd h (by decide))
      refine ks_iconst (x := nI 4) dX16_fromBytes_45 (by decide) rfl ?_
      refine ks_iload dX16_fromBytes_46 rfl rfl ?_
      refine ks_mulN dX16_fromBytes_48 rfl ?_
      refine ks_iload dX16_fromBytes_49 rfl rfl ?_
      refine ks_addN dX16_fromBytes_51 rfl ?_
      refine ks_addN dX16_fromBytes_52 rfl ?_
      refine ks_baldB (i := a + (4 * i + 1)) ey rfl (by omega) (by omega) dX16_fromBytes_53 rfl ?_
      refine ks_sipush (x := nI 255) dX16_fromBytes_54 (by decide) rfl ?_
      refine ks_andB (kg _) dX16_fromBytes_57 rfl ?_
      have hy57 : g (a + (4 * i + 1)) < 256 := (kg _)
      refine ks_or2 (a := ((0 * 2 ^ 8 + (g (a + (4 * i + 3)))) * 2 ^ 8 + (g (a + (4 * i + 2))))) (k := 8) (by omega) (by omega) dX16_fromBytes_58 rfl ?_
      refine ks_istore dX16_fromBytes_59 (by decide) rfl ?_
      refine ks_sub [(5, _), (0, _), (1, _), (2, _), (3, _), (4, _), (6, _)] rfl ?_
      refine ks_decN (e := 0) dX16_fromBytes_61 rfl (by decide) (by omega) (by decide) rfl ?_
      refine ks_sub [(6, _), (0, _), (1, _), (2, _), (3, _), (4, _), (5, _)] rfl ?_
      refine ks_goto (tgt := 16) dX16_fromBytes_64 (by decide) ?_
      refine ks_iload dX16_fromBytes_16 rfl rfl ?_
      refine ks_if_ltN (tgt := 67) (by decide) dX16_fromBytes_18 (by decide) rfl ?_
      refine ks_iload dX16_fromBytes_21 rfl rfl ?_
      refine ks_bipush (x := nI 8) dX16_fromBytes_23 (by decide) rfl ?_
      refine ks_shlN (k := 8) (by decide) (by omega) dX16_fromBytes_25 rfl ?_
      refine ks_aload_n dX16_fromBytes_26 rfl rfl ?_
      refine ks_iload_n dX16_fromBytes_27 rfl rfl ?_
      refine ks_iload_n dX16_fromBytes_28 rfl rfl ?_
      refine ks_if_eqZ (tgt := 45) dX16_fromBytes_29 (by decide) rfl (fun _ => ?_) (fun h => absurd h (by decide))
      refine ks_iconst (x := nI 4) dX16_fromBytes_45 (by decide) rfl ?_
      refine ks_iload dX16_fromBytes_46 rfl rfl ?_
      refine ks_mulN dX16_fromBytes_48 rfl ?_
      refine ks_iload dX16_fromBytes_49 rfl rfl ?_
      refine ks_addN dX16_fromBytes_51 rfl ?_
      refine ks_addN dX16_fromBytes_52 rfl ?_
      refine ks_baldB (i := a + (4 * i + 0)) ey rfl (by omega) (by omega) dX16_fromBytes_53 rfl ?_
      refine ks_sipush (x := nI 255) dX16_fromBytes_54 (by decide) rfl ?_
      refine ks_andB (kg _) dX16_fromBytes_57 rfl ?_
      have hy57 : g (a + (4 * i + 0)) < 256 := (kg _)
      refine ks_or2 (a := (((0 * 2 ^ 8 + (g (a + (4 * i + 3)))) * 2 ^ 8 + (g (a + (4 * i + 2)))) * 2 ^ 8 + (g (a + (4 * i + 1))))) (k := 8) (by omega) (by omega) dX16_fromBytes_58 rfl ?_
      refine ks_istore dX16_fromBytes_59 (by decide) rfl ?_
      refine ks_sub [(5, _), (0, _), (1, _), (2, _), (3, _), (4, _), (6, _)] rfl ?_
      refine ks_incD dX16_fromBytes_61 rfl (by decide) (by decide) rfl ?_
      refine ks_sub [(6, _), (0, _), (1, _), (2, _), (3, _), (4, _), (5, _)] rfl ?_
      refine ks_goto (tgt := 16) dX16_fromBytes_64 (by decide) ?_
      refine ks_iload dX16_fromBytes_16 rfl rfl ?_
      refine ks_if_ltD (tgt := 67) (by omega) dX16_fromBytes_18 (by decide) rfl (fun _ => ?_) (fun h => absurd rfl h)
      refine ks_aload_n dX16_fromBytes_67 rfl rfl ?_
      refine ks_iload dX16_fromBytes_68 rfl rfl ?_
      refine ks_iload dX16_fromBytes_70 rfl rfl ?_
      refine ks_iastNN (i := i) (v := (((0 * 2 ^ 8 + (g (a + (4 * i + 3)))) * 2 ^ 8 + (g (a + (4 * i + 2)))) * 2 ^ 8 + (g (a + (4 * i + 1)))) * 2 ^ 8 + (g (a + (4 * i + 0)))) ht9 e1 (by omega) (by decide) dX16_fromBytes_72 rfl ?_
      refine ks_incN (c := 1) (e := i + 1) dX16_fromBytes_73 rfl (by decide) rfl (by decide) rfl ?_
      refine ks_sub [(4, _), (0, _), (1, _), (2, _), (3, _), (5, _), (6, _)] rfl ?_
      refine ks_goto (tgt := 3) dX16_fromBytes_76 (by decide) ?_
      refine ks_sub [(0, _), (1, _), (2, _), (3, _), (4, _)] rfl (ih (i + 1) _ _ (by omega) (hu.trans (ks_up_set _ _ (List.mem_singleton.mpr rfl))) (ks_set_same _ _ _) (fun j hj => ?_))
      by_cases e : j = i
      · subst e
        rw [va_up_self, dgW4]
        unfold fbF
        simp only [Bool.false_eq_true, if_true, if_false]
        rfl
      · rw [va_up_ne _ _ e]; exact hg j (by omega)
  refine ks_of (by decide) rfl rfl (Nat.le_of_ble_eq_true rfl) ?_
  show ks_X l G mX16_fromBytes d 0 [(0, .ref y), (1, .int (nI a)), (2, .int (ks_bo false)), (3, .ref t)] [] S _
  refine ks_iconst (x := nI 0) dX16_fromBytes_0 (by decide) rfl ?_
  refine ks_istore dX16_fromBytes_1 (by decide) rfl ?_
  refine ks_sub [(4, _), (0, _), (1, _), (2, _), (3, _)] rfl ?_
  exact ks_sub [(0, _), (1, _), (2, _), (3, _), (4, _)] rfl (loop 8 0 S gt rfl (ks_up.rf _ _) egt (fun j hj => absurd hj (Nat.not_lt_zero j)))
set_option maxRecDepth 100000 in
set_option maxHeartbeats 800000 in
theorem c_md_toBytes {l : Launch} {G : ks_G} {d : Nat} {S : ks_S} {a y N i A : Nat} {g : Nat → Nat} (hA : wA S a A) (hy : S.2.2 y = some (kB N g)) (kg : kO g) (hi : i + 32 ≤ N) (hN : N < 2 ^ 28) (ha9 : a < ks_B) : ks_P l G yX16_toBytes mX16_toBytes d [.ref a, .ref y, .int (nI i)] S (fun z S' => z = none ∧ ks_up S S' [y] ∧ S'.2.2 y = some (kB N (ks_pt (beB A) g i 32))) := by
  obtain ⟨ga, ega, bga, dga⟩ := hA
  have ya : y ≠ a := ks_ne hy ega (fun e => by cases e)
  have loop : ∀ (u k : Nat) (S1 : ks_S), k + u = 32 → ks_up S S1 [y] → S1.2.2 y = some (kB N (ks_pt (beB A) g i k)) → ks_X l G mX16_toBytes d 2 [(0, .ref a), (1, .ref y), (2, .int (nI i)), (3, .int (nI k))] [] S1 (fun z S' => z = none ∧ ks_up S S' [y] ∧ S'.2.2 y = some (kB N (ks_pt (beB A) g i 32))) := by
    intro u
    induction u with
    | zero =>
      intro k S1 hk hu e1
      have ea := hu.at ega (by rw [List.mem_singleton]; exact Ne.symm ya)
      obtain rfl : k = 32 := hk
      refine ks_iload_n dX16_toBytes_2 rfl rfl ?_
      refine ks_bipush (x := nI 32) dX16_toBytes_3 (by decide) rfl ?_
      refine ks_icmp_geN (tgt := 38) (by decide) (by decide) dX16_toBytes_5 (by decide) rfl (fun _ => ?_) (fun h => absurd h (by decide))
      refine ks_ret rfl dX16_toBytes_38 ?_
      exact ⟨rfl, hu, e1⟩
    | succ u ih =>
      intro k S1 hk hu e1
      have ea := hu.at ega (by rw [List.mem_singleton]; exact Ne.symm ya)
      have k32 : k < 32 := by omega
      have bg := bga (7 - k / 4) (by omega)
      refine ks_iload_n dX16_toBytes_2 rfl rfl ?_
      refine ks_bipush (x := nI 32) dX16_toBytes_3 (by decide) rfl ?_
      refine ks_icmp_geN (tgt := 38) (by omega) (by decide) dX16_toBytes_5 (by decide) rfl (fun h1 => absurd h1 (by omega)) (fun h1 => ?_)
      refine ks_aload_n dX16_toBytes_8 rfl rfl ?_
      refine ks_iload_n dX16_toBytes_9 rfl rfl ?_
      refine ks_iload_n dX16_toBytes_10 rfl rfl ?_
      refine ks_addN dX16_toBytes_11 rfl ?_
      refine ks_aload_n dX16_toBytes_12 rfl rfl ?_
      refine ks_bipush (x := nI 7) dX16_toBytes_13 (by decide) rfl ?_
      refine ks_iload_n dX16_toBytes_15 rfl rfl ?_
      refine ks_iconst (x := nI 4) dX16_toBytes_16 (by decide) rfl ?_
      refine ks_divN (by omega) (by decide) (by decide) dX16_toBytes_17 rfl ?_
      refine ks_subN (by omega) dX16_toBytes_18 rfl ?_
      refine ks_ialdN (i := 7 - (k / 4)) ea rfl (by omega) (by decide) dX16_toBytes_19 rfl ?_
      refine ks_bipush (x := nI 24) dX16_toBytes_20 (by decide) rfl ?_
      refine ks_bipush (x := nI 8) dX16_toBytes_22 (by decide) rfl ?_
      refine ks_iload_n dX16_toBytes_24 rfl rfl ?_
      refine ks_iconst (x := nI 4) dX16_toBytes_25 (by decide) rfl ?_
      refine ks_remN (by omega) (by decide) (by decide) dX16_toBytes_26 rfl ?_
      refine ks_mulN dX16_toBytes_27 rfl ?_
      refine ks_subN (by omega) dX16_toBytes_28 rfl ?_
      refine ks_ushrN (k := 24 - (8 * (k % 4))) (s_u _ (by omega)) (by omega) dX16_toBytes_29 rfl ?_
      refine ks_i2b dX16_toBytes_30 rfl ?_
      refine ks_bastB (i := i + k) (c := ((ga (7 - (k / 4))) / 2 ^ (24 - (8 * (k % 4)))) % 256) e1 rfl (by omega) (by omega) ((ks_by_i8 _).trans (ks_by_nI _)) dX16_toBytes_31 rfl ?_
      refine ks_incN (c := 1) (e := k + 1) dX16_toBytes_32 rfl (by decide) rfl (by decide) rfl ?_
      refine ks_sub [(3, _), (0, _), (1, _), (2, _)] rfl ?_
      refine ks_goto (tgt := 2) dX16_toBytes_35 (by decide) ?_
      refine ks_sub [(0, _), (1, _), (2, _), (3, _)] rfl (ih (k + 1) _ (by omega) (hu.trans (ks_up_set _ _ (List.mem_singleton.mpr rfl))) ?_)
      rw [ks_set_same]
      congr 2
      have ev : ga (7 - k / 4) / 2 ^ (24 - 8 * (k % 4)) % 256 = beB A k := by
        rw [← dg_by bga (by omega) (by omega), dga]
        unfold beB
        congr 3
        omega
      rw [ev]
      exact ks_pt_s _ _ _ _
  refine ks_of (by decide) rfl rfl (Nat.le_of_ble_eq_true rfl) ?_
  show ks_X l G mX16_toBytes d 0 [(0, .ref a), (1, .ref y), (2, .int (nI i))] [] S _
  refine ks_iconst (x := nI 0) dX16_toBytes_0 (by decide) rfl ?_
  refine ks_istore_n dX16_toBytes_1 (by decide) rfl ?_
  refine ks_sub [(3, _), (0, _), (1, _), (2, _)] rfl ?_
  refine ks_sub [(0, _), (1, _), (2, _), (3, _)] rfl (loop 32 0 S rfl (ks_up.rf _ _) ?_)
  rw [hy]
  congr 2
  funext x
  unfold ks_pt
  rw [if_neg (by omega)]
