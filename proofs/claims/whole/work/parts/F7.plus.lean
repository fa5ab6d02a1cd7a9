/-! THE REFERENCE: sums and multiples of points -/
theorem wA_0 {S : ks_S} {a : Nat} {g : Nat → Nat} (h : S.2.2 a = some (kN 8 g)) (hz : ∀ j, j < 8 → g j = 0) : wA S a 0 := by
  refine ⟨g, h, fun j hj => by rw [hz j hj]; decide, ?_⟩
  rw [dg_congr (g := fun _ => 0) hz]
  decide
theorem fX_0 {S : ks_S} {a : Nat} (h : wA S a 0) : fX S a 0 := ⟨by rw [Nat.zero_mul, Nat.zero_mod]; exact h, by decide⟩
theorem z8 {g : Nat → Nat} : ∀ j, j < 8 → va_up (va_up (va_up (va_up (va_up (va_up (va_up (va_up g 0 0) 1 0) 2 0) 3 0) 4 0) 5 0) 6 0) 7 0 j = 0 := by
  intro j hj
  have h8 : j = 0 ∨ j = 1 ∨ j = 2 ∨ j = 3 ∨ j = 4 ∨ j = 5 ∨ j = 6 ∨ j = 7 := by omega
  rcases h8 with rfl | rfl | rfl | rfl | rfl | rfl | rfl | rfl <;> rfl
theorem up8 {S : ks_S} {a : Nat} {e1 e2 e3 e4 e5 e6 e7 e8 : ks_E} : ks_up S (ks_set (ks_set (ks_set (ks_set (ks_set (ks_set (ks_set (ks_set S a e1) a e2) a e3) a e4) a e5) a e6) a e7) a e8) [a] := by
  have m : a ∈ [a] := List.mem_singleton.mpr rfl
  exact (((((((ks_up_set _ _ m).trans (ks_up_set _ _ m)).trans (ks_up_set _ _ m)).trans (ks_up_set _ _ m)).trans (ks_up_set _ _ m)).trans (ks_up_set _ _ m)).trans (ks_up_set _ _ m)).trans (ks_up_set _ _ m)
theorem cvR.z {S S1 : ks_S} {R : Nat → Nat} {t : Nat} {g : Nat → Nat} (h : cvR S R) (ht : t ∈ rwL) (hu : ks_up S S1 [t]) (hg : S1.2.2 t = some (kN 8 g)) (hz : ∀ j, j < 8 → g j = 0) : cvR S1 (va_up R t 0) := by
  have kt := rwL_b t ht
  exact h.row ht hu (fun x hx => by rw [List.mem_singleton] at hx; omega) (h.1.up hu (fun x hx => by rw [List.mem_singleton] at hx; omega)) (fX_0 (wA_0 hg hz))
/-- the multiple of a point, bit by bit -/
def rmL (P : Pt) (U : Nat) : Nat → Pt → Pt
  | 0, Q => Q
  | k + 1, Q => rmL P U k (if U / 2 ^ k % 2 = 1 then rfA (rfD Q) P else rfD Q)
set_option maxRecDepth 100000 in
set_option maxHeartbeats 3200000 in
theorem c_md_plus307 {l : Launch} {G : ks_G} {d : Nat} {S : ks_S} {V : Nat → Value} {R : Nat → Nat} (hO : S.2.2 290 = some (rfE V)) (hC : cvR S R) : ks_P l G yX16_plus mX16_plus (d + 3) [.ref 290, .ref 315, .ref 307] S (fun z S' => z = none ∧ ks_up S S' [552, 316, 317, 318, 323, 324, 325, 326, 327, 328] ∧ ∃ R', cvR S' R' ∧ ptR R' 316 = rfA (ptR R 316) (ptR R 308) ∧ ∀ k, k < 316 ∨ 318 < k → k < 323 → R' k = R k) := by
  have p315_0 : S.2.2 315 = some (.inr (17, [.ref 316, .ref 317, .ref 318])) := hC.2.2.2.2.1
  have p307_0 : S.2.2 307 = some (.inr (17, [.ref 308, .ref 309, .ref 310])) := hC.2.2.1
  have r_0 := hC.1.1.1
  refine ks_of (by decide) rfl rfl (Nat.le_of_ble_eq_true rfl) ?_
  show ks_X l G mX16_plus (d + 3) 0 [(0, .ref 290), (1, .ref 315), (2, .ref 307)] [] S _
  refine ks_aload_n dX16_plus_0 rfl rfl ?_
  refine ks_getN (T := TX14) (kf := 2) kx_1797 rfl in_X14 cl_X14 (by decide) p307_0 rfl dX16_plus_1 rfl ?_
  refine ks_callS (n := 1) (M' := mX15_isZero) (c_fz (d := d + 2) (a := 310) hC (by decide)) kx_2306 kx_2307 kx_33 kx_2308 (by decide +kernel) rfl (by decide) (Nat.le_of_ble_eq_true rfl) rfl dX16_plus_4 rfl (fun z9 T9 y9 => ?_)
  obtain ⟨rfl, hT9⟩ := y9
  obtain rfl := hT9.symm
  refine ks_if_eqZ (tgt := 11) dX16_plus_7 (by decide) rfl (fun h9 => ?_) (fun h9 => ?_)
  · have q0 : ¬ (ptR R 308).2.2 = 0 := of_decide_eq_false h9
    refine ks_aload_n dX16_plus_11 rfl rfl ?_
    refine ks_getN (T := TX14) (kf := 2) kx_1797 rfl in_X14 cl_X14 (by decide) p315_0 rfl dX16_plus_12 rfl ?_
    refine ks_callS (n := 1) (M' := mX15_isZero) (c_fz (d := d + 2) (a := 318) hC (by decide)) kx_2306 kx_2307 kx_33 kx_2308 (by decide +kernel) rfl (by decide) (Nat.le_of_ble_eq_true rfl) rfl dX16_plus_15 rfl (fun z8 T8 y8 => ?_)
    obtain ⟨rfl, hT8⟩ := y8
    obtain rfl := hT8.symm
    refine ks_if_eqZ (tgt := 27) dX16_plus_18 (by decide) rfl (fun h8 => ?_) (fun h8 => ?_)
    · have p0 : ¬ (ptR R 316).2.2 = 0 := of_decide_eq_false h8
      refine ks_aload_n dX16_plus_27 rfl rfl ?_
      refine ks_getf (T := TX16) (kf := 15) kx_2383 rfl in_X16 cl_X16 (by decide) hO rfl dX16_plus_28 rfl ?_
      refine ks_aload_n dX16_plus_31 rfl rfl ?_
      refine ks_getN (T := TX14) (kf := 2) kx_1797 rfl in_X14 cl_X14 (by decide) p307_0 rfl dX16_plus_32 rfl ?_
      refine ks_aload_n dX16_plus_35 rfl rfl ?_
      refine ks_getN (T := TX14) (kf := 2) kx_1797 rfl in_X14 cl_X14 (by decide) p307_0 rfl dX16_plus_36 rfl ?_
      refine ks_aload_n dX16_plus_39 rfl rfl ?_
      refine ks_getf (T := TX16) (kf := 22) kx_2390 rfl in_X16 cl_X16 (by decide) hO rfl dX16_plus_40 rfl ?_
      refine ks_callV (n := 3) (M' := mX15_multiply) (c_fm (d := (d + 1)) (a := 310) (b := 310) (t := 323) hC (by decide) (by decide) (by decide)) r_0 cl_X15 rfl kx_2285 kx_1922 kx_1923 kx_33 kx_1924 (by decide +kernel) rfl (by decide) (Nat.le_of_ble_eq_true rfl) rfl dX16_plus_43 rfl (fun z_1 T_1 y_1 => ?_)
      obtain ⟨rfl, u_1, y_1⟩ := y_1
      obtain ⟨v_1, e_1⟩ : ∃ v, v = mM (R 310) (R 310) := ⟨_, rfl⟩
      have c_1 : cvR T_1 (va_up R 323 v_1) := by rw [e_1]; exact y_1
      have o_1 := u_1.at hO (by decide)
      clear y_1
      have p315_1 : T_1.2.2 315 = some (.inr (17, [.ref 316, .ref 317, .ref 318])) := c_1.2.2.2.2.1
      have p307_1 : T_1.2.2 307 = some (.inr (17, [.ref 308, .ref 309, .ref 310])) := c_1.2.2.1
      have r_1 := c_1.1.1.1
      refine ks_aload_n dX16_plus_46 rfl rfl ?_
      refine ks_getf (T := TX16) (kf := 15) kx_2383 rfl in_X16 cl_X16 (by decide) o_1 rfl dX16_plus_47 rfl ?_
      refine ks_aload_n dX16_plus_50 rfl rfl ?_
      refine ks_getN (T := TX14) (kf := 0) kx_1793 rfl in_X14 cl_X14 (by decide) p315_1 rfl dX16_plus_51 rfl ?_
      refine ks_aload_n dX16_plus_54 rfl rfl ?_
      refine ks_getf (T := TX16) (kf := 22) kx_2390 rfl in_X16 cl_X16 (by decide) o_1 rfl dX16_plus_55 rfl ?_
      refine ks_aload_n dX16_plus_58 rfl rfl ?_
      refine ks_getf (T := TX16) (kf := 23) kx_2391 rfl in_X16 cl_X16 (by decide) o_1 rfl dX16_plus_59 rfl ?_
      refine ks_callV (n := 3) (M' := mX15_multiply) (c_fm (d := (d + 1)) (a := 316) (b := 323) (t := 324) c_1 (by decide) (by decide) (by decide)) r_1 cl_X15 rfl kx_2285 kx_1922 kx_1923 kx_33 kx_1924 (by decide +kernel) rfl (by decide) (Nat.le_of_ble_eq_true rfl) rfl dX16_plus_62 rfl (fun z_2 T_2 y_2 => ?_)
      obtain ⟨rfl, u_2, y_2⟩ := y_2
      obtain ⟨v_2, e_2⟩ : ∃ v, v = mM (R 316) v_1 := ⟨_, rfl⟩
      have c_2 : cvR T_2 (va_up (va_up R 323 v_1) 324 v_2) := by rw [e_2]; exact y_2
      have o_2 := u_2.at o_1 (by decide)
      clear y_2
      have p315_2 : T_2.2.2 315 = some (.inr (17, [.ref 316, .ref 317, .ref 318])) := c_2.2.2.2.2.1
      have p307_2 : T_2.2.2 307 = some (.inr (17, [.ref 308, .ref 309, .ref 310])) := c_2.2.2.1
      have r_2 := c_2.1.1.1
      refine ks_aload_n dX16_plus_65 rfl rfl ?_
      refine ks_getf (T := TX16) (kf := 15) kx_2383 rfl in_X16 cl_X16 (by decide) o_2 rfl dX16_plus_66 rfl ?_
      refine ks_aload_n dX16_plus_69 rfl rfl ?_
      refine ks_getf (T := TX16) (kf := 22) kx_2390 rfl in_X16 cl_X16 (by decide) o_2 rfl dX16_plus_70 rfl ?_
      refine ks_aload_n dX16_plus_73 rfl rfl ?_
      refine ks_getN (T := TX14) (kf := 2) kx_1797 rfl in_X14 cl_X14 (by decide) p307_2 rfl dX16_plus_74 rfl ?_
      refine ks_aload_n dX16_plus_77 rfl rfl ?_
      refine ks_getf (T := TX16) (kf := 22) kx_2390 rfl in_X16 cl_X16 (by decide) o_2 rfl dX16_plus_78 rfl ?_
      refine ks_callV (n := 3) (M' := mX15_multiply) (c_fm (d := (d + 1)) (a := 323) (b := 310) (t := 323) c_2 (by decide) (by decide) (by decide)) r_2 cl_X15 rfl kx_2285 kx_1922 kx_1923 kx_33 kx_1924 (by decide +kernel) rfl (by decide) (Nat.le_of_ble_eq_true rfl) rfl dX16_plus_81 rfl (fun z_3 T_3 y_3 => ?_)
      obtain ⟨rfl, u_3, y_3⟩ := y_3
      obtain ⟨v_3, e_3⟩ : ∃ v, v = mM v_1 (R 310) := ⟨_, rfl⟩
      have c_3 : cvR T_3 (va_up (va_up (va_up R 323 v_1) 324 v_2) 323 v_3) := by rw [e_3]; exact y_3
      have o_3 := u_3.at o_2 (by decide)
      clear y_3
      have p315_3 : T_3.2.2 315 = some (.inr (17, [.ref 316, .ref 317, .ref 318])) := c_3.2.2.2.2.1
      have p307_3 : T_3.2.2 307 = some (.inr (17, [.ref 308, .ref 309, .ref 310])) := c_3.2.2.1
      have r_3 := c_3.1.1.1
      refine ks_aload_n dX16_plus_84 rfl rfl ?_
      refine ks_getf (T := TX16) (kf := 15) kx_2383 rfl in_X16 cl_X16 (by decide) o_3 rfl dX16_plus_85 rfl ?_
      refine ks_aload_n dX16_plus_88 rfl rfl ?_
      refine ks_getN (T := TX14) (kf := 1) kx_1795 rfl in_X14 cl_X14 (by decide) p315_3 rfl dX16_plus_89 rfl ?_
      refine ks_aload_n dX16_plus_92 rfl rfl ?_
      refine ks_getf (T := TX16) (kf := 22) kx_2390 rfl in_X16 cl_X16 (by decide) o_3 rfl dX16_plus_93 rfl ?_
      refine ks_aload_n dX16_plus_96 rfl rfl ?_
      refine ks_getf (T := TX16) (kf := 22) kx_2390 rfl in_X16 cl_X16 (by decide) o_3 rfl dX16_plus_97 rfl ?_
      refine ks_callV (n := 3) (M' := mX15_multiply) (c_fm (d := (d + 1)) (a := 317) (b := 323) (t := 323) c_3 (by decide) (by decide) (by decide)) r_3 cl_X15 rfl kx_2285 kx_1922 kx_1923 kx_33 kx_1924 (by decide +kernel) rfl (by decide) (Nat.le_of_ble_eq_true rfl) rfl dX16_plus_100 rfl (fun z_4 T_4 y_4 => ?_)
      obtain ⟨rfl, u_4, y_4⟩ := y_4
      obtain ⟨v_4, e_4⟩ : ∃ v, v = mM (R 317) v_3 := ⟨_, rfl⟩
      have c_4 : cvR T_4 (va_up (va_up (va_up (va_up R 323 v_1) 324 v_2) 323 v_3) 323 v_4) := by rw [e_4]; exact y_4
      have o_4 := u_4.at o_3 (by decide)
      clear y_4
      have p315_4 : T_4.2.2 315 = some (.inr (17, [.ref 316, .ref 317, .ref 318])) := c_4.2.2.2.2.1
      have p307_4 : T_4.2.2 307 = some (.inr (17, [.ref 308, .ref 309, .ref 310])) := c_4.2.2.1
      have r_4 := c_4.1.1.1
      refine ks_aload_n dX16_plus_103 rfl rfl ?_
      refine ks_getf (T := TX16) (kf := 15) kx_2383 rfl in_X16 cl_X16 (by decide) o_4 rfl dX16_plus_104 rfl ?_
      refine ks_aload_n dX16_plus_107 rfl rfl ?_
      refine ks_getN (T := TX14) (kf := 2) kx_1797 rfl in_X14 cl_X14 (by decide) p315_4 rfl dX16_plus_108 rfl ?_
      refine ks_aload_n dX16_plus_111 rfl rfl ?_
      refine ks_getN (T := TX14) (kf := 2) kx_1797 rfl in_X14 cl_X14 (by decide) p315_4 rfl dX16_plus_112 rfl ?_
      refine ks_aload_n dX16_plus_115 rfl rfl ?_
      refine ks_getf (T := TX16) (kf := 24) kx_2392 rfl in_X16 cl_X16 (by decide) o_4 rfl dX16_plus_116 rfl ?_
      refine ks_callV (n := 3) (M' := mX15_multiply) (c_fm (d := (d + 1)) (a := 318) (b := 318) (t := 325) c_4 (by decide) (by decide) (by decide)) r_4 cl_X15 rfl kx_2285 kx_1922 kx_1923 kx_33 kx_1924 (by decide +kernel) rfl (by decide) (Nat.le_of_ble_eq_true rfl) rfl dX16_plus_119 rfl (fun z_5 T_5 y_5 => ?_)
      obtain ⟨rfl, u_5, y_5⟩ := y_5
      obtain ⟨v_5, e_5⟩ : ∃ v, v = mM (R 318) (R 318) := ⟨_, rfl⟩
      have c_5 : cvR T_5 (va_up (va_up (va_up (va_up (va_up R 323 v_1) 324 v_2) 323 v_3) 323 v_4) 325 v_5) := by rw [e_5]; exact y_5
      have o_5 := u_5.at o_4 (by decide)
      clear y_5
      have p315_5 : T_5.2.2 315 = some (.inr (17, [.ref 316, .ref 317, .ref 318])) := c_5.2.2.2.2.1
      have p307_5 : T_5.2.2 307 = some (.inr (17, [.ref 308, .ref 309, .ref 310])) := c_5.2.2.1
      have r_5 := c_5.1.1.1
      refine ks_aload_n dX16_plus_122 rfl rfl ?_
      refine ks_getf (T := TX16) (kf := 15) kx_2383 rfl in_X16 cl_X16 (by decide) o_5 rfl dX16_plus_123 rfl ?_
      refine ks_aload_n dX16_plus_126 rfl rfl ?_
      refine ks_getN (T := TX14) (kf := 0) kx_1793 rfl in_X14 cl_X14 (by decide) p307_5 rfl dX16_plus_127 rfl ?_
      refine ks_aload_n dX16_plus_130 rfl rfl ?_
      refine ks_getf (T := TX16) (kf := 24) kx_2392 rfl in_X16 cl_X16 (by decide) o_5 rfl dX16_plus_131 rfl ?_
      refine ks_aload_n dX16_plus_134 rfl rfl ?_
      refine ks_getf (T := TX16) (kf := 25) kx_2393 rfl in_X16 cl_X16 (by decide) o_5 rfl dX16_plus_135 rfl ?_
      refine ks_callV (n := 3) (M' := mX15_multiply) (c_fm (d := (d + 1)) (a := 308) (b := 325) (t := 326) c_5 (by decide) (by decide) (by decide)) r_5 cl_X15 rfl kx_2285 kx_1922 kx_1923 kx_33 kx_1924 (by decide +kernel) rfl (by decide) (Nat.le_of_ble_eq_true rfl) rfl dX16_plus_138 rfl (fun z_6 T_6 y_6 => ?_)
      obtain ⟨rfl, u_6, y_6⟩ := y_6
      obtain ⟨v_6, e_6⟩ : ∃ v, v = mM (R 308) v_5 := ⟨_, rfl⟩
      have c_6 : cvR T_6 (va_up (va_up (va_up (va_up (va_up (va_up R 323 v_1) 324 v_2) 323 v_3) 323 v_4) 325 v_5) 326 v_6) := by rw [e_6]; exact y_6
      have o_6 := u_6.at o_5 (by decide)
      clear y_6
      have p315_6 : T_6.2.2 315 = some (.inr (17, [.ref 316, .ref 317, .ref 318])) := c_6.2.2.2.2.1
      have p307_6 : T_6.2.2 307 = some (.inr (17, [.ref 308, .ref 309, .ref 310])) := c_6.2.2.1
      have r_6 := c_6.1.1.1
      refine ks_aload_n dX16_plus_141 rfl rfl ?_
      refine ks_getf (T := TX16) (kf := 15) kx_2383 rfl in_X16 cl_X16 (by decide) o_6 rfl dX16_plus_142 rfl ?_
      refine ks_aload_n dX16_plus_145 rfl rfl ?_
      refine ks_getf (T := TX16) (kf := 24) kx_2392 rfl in_X16 cl_X16 (by decide) o_6 rfl dX16_plus_146 rfl ?_
      refine ks_aload_n dX16_plus_149 rfl rfl ?_
      refine ks_getN (T := TX14) (kf := 2) kx_1797 rfl in_X14 cl_X14 (by decide) p315_6 rfl dX16_plus_150 rfl ?_
      refine ks_aload_n dX16_plus_153 rfl rfl ?_
      refine ks_getf (T := TX16) (kf := 24) kx_2392 rfl in_X16 cl_X16 (by decide) o_6 rfl dX16_plus_154 rfl ?_
      refine ks_callV (n := 3) (M' := mX15_multiply) (c_fm (d := (d + 1)) (a := 325) (b := 318) (t := 325) c_6 (by decide) (by decide) (by decide)) r_6 cl_X15 rfl kx_2285 kx_1922 kx_1923 kx_33 kx_1924 (by decide +kernel) rfl (by decide) (Nat.le_of_ble_eq_true rfl) rfl dX16_plus_157 rfl (fun z_7 T_7 y_7 => ?_)
      obtain ⟨rfl, u_7, y_7⟩ := y_7
      obtain ⟨v_7, e_7⟩ : ∃ v, v = mM v_5 (R 318) := ⟨_, rfl⟩
      have c_7 : cvR T_7 (va_up (va_up (va_up (va_up (va_up (va_up (va_up R 323 v_1) 324 v_2) 323 v_3) 323 v_4) 325 v_5) 326 v_6) 325 v_7) := by rw [e_7]; exact y_7
      have o_7 := u_7.at o_6 (by decide)
      clear y_7
      have p315_7 : T_7.2.2 315 = some (.inr (17, [.ref 316, .ref 317, .ref 318])) := c_7.2.2.2.2.1
      have p307_7 : T_7.2.2 307 = some (.inr (17, [.ref 308, .ref 309, .ref 310])) := c_7.2.2.1
      have r_7 := c_7.1.1.1
      refine ks_aload_n dX16_plus_160 rfl rfl ?_
      refine ks_getf (T := TX16) (kf := 15) kx_2383 rfl in_X16 cl_X16 (by decide) o_7 rfl dX16_plus_161 rfl ?_
      refine ks_aload_n dX16_plus_164 rfl rfl ?_
      refine ks_getN (T := TX14) (kf := 1) kx_1795 rfl in_X14 cl_X14 (by decide) p307_7 rfl dX16_plus_165 rfl ?_
      refine ks_aload_n dX16_plus_168 rfl rfl ?_
      refine ks_getf (T := TX16) (kf := 24) kx_2392 rfl in_X16 cl_X16 (by decide) o_7 rfl dX16_plus_169 rfl ?_
      refine ks_aload_n dX16_plus_172 rfl rfl ?_
      refine ks_getf (T := TX16) (kf := 24) kx_2392 rfl in_X16 cl_X16 (by decide) o_7 rfl dX16_plus_173 rfl ?_
      refine ks_callV (n := 3) (M' := mX15_multiply) (c_fm (d := (d + 1)) (a := 309) (b := 325) (t := 325) c_7 (by decide) (by decide) (by decide)) r_7 cl_X15 rfl kx_2285 kx_1922 kx_1923 kx_33 kx_1924 (by decide +kernel) rfl (by decide) (Nat.le_of_ble_eq_true rfl) rfl dX16_plus_176 rfl (fun z_8 T_8 y_8 => ?_)
      obtain ⟨rfl, u_8, y_8⟩ := y_8
      obtain ⟨v_8, e_8⟩ : ∃ v, v = mM (R 309) v_7 := ⟨_, rfl⟩
      have c_8 : cvR T_8 (va_up (va_up (va_up (va_up (va_up (va_up (va_up (va_up R 323 v_1) 324 v_2) 323 v_3) 323 v_4) 325 v_5) 326 v_6) 325 v_7) 325 v_8) := by rw [e_8]; exact y_8
      have o_8 := u_8.at o_7 (by decide)
      clear y_8
      have p315_8 : T_8.2.2 315 = some (.inr (17, [.ref 316, .ref 317, .ref 318])) := c_8.2.2.2.2.1
      have p307_8 : T_8.2.2 307 = some (.inr (17, [.ref 308, .ref 309, .ref 310])) := c_8.2.2.1
      have r_8 := c_8.1.1.1
      refine ks_aload_n dX16_plus_179 rfl rfl ?_
      refine ks_getf (T := TX16) (kf := 15) kx_2383 rfl in_X16 cl_X16 (by decide) o_8 rfl dX16_plus_180 rfl ?_
      refine ks_aload_n dX16_plus_183 rfl rfl ?_
      refine ks_getf (T := TX16) (kf := 25) kx_2393 rfl in_X16 cl_X16 (by decide) o_8 rfl dX16_plus_184 rfl ?_
      refine ks_aload_n dX16_plus_187 rfl rfl ?_
      refine ks_getf (T := TX16) (kf := 23) kx_2391 rfl in_X16 cl_X16 (by decide) o_8 rfl dX16_plus_188 rfl ?_
      refine ks_aload_n dX16_plus_191 rfl rfl ?_
      refine ks_getf (T := TX16) (kf := 25) kx_2393 rfl in_X16 cl_X16 (by decide) o_8 rfl dX16_plus_192 rfl ?_
      refine ks_callV (n := 3) (M' := mX15_subtract) (c_fs (d := (d + 1)) (a := 326) (b := 324) (t := 326) c_8 (by decide) (by decide) (by decide)) r_8 cl_X15 rfl kx_2298 kx_2299 kx_2300 kx_33 kx_2301 (by decide +kernel) rfl (by decide) (Nat.le_of_ble_eq_true rfl) rfl dX16_plus_195 rfl (fun z_9 T_9 y_9 => ?_)
      obtain ⟨rfl, u_9, y_9⟩ := y_9
      obtain ⟨v_9, e_9⟩ : ∃ v, v = sM v_6 v_2 := ⟨_, rfl⟩
      have c_9 : cvR T_9 (va_up (va_up (va_up (va_up (va_up (va_up (va_up (va_up (va_up R 323 v_1) 324 v_2) 323 v_3) 323 v_4) 325 v_5) 326 v_6) 325 v_7) 325 v_8) 326 v_9) := by rw [e_9]; exact y_9
      have o_9 := u_9.at o_8 (by decide)
      clear y_9
      have p315_9 : T_9.2.2 315 = some (.inr (17, [.ref 316, .ref 317, .ref 318])) := c_9.2.2.2.2.1
      have p307_9 : T_9.2.2 307 = some (.inr (17, [.ref 308, .ref 309, .ref 310])) := c_9.2.2.1
      have r_9 := c_9.1.1.1
      refine ks_aload_n dX16_plus_198 rfl rfl ?_
      refine ks_getf (T := TX16) (kf := 15) kx_2383 rfl in_X16 cl_X16 (by decide) o_9 rfl dX16_plus_199 rfl ?_
      refine ks_aload_n dX16_plus_202 rfl rfl ?_
      refine ks_getf (T := TX16) (kf := 24) kx_2392 rfl in_X16 cl_X16 (by decide) o_9 rfl dX16_plus_203 rfl ?_
      refine ks_aload_n dX16_plus_206 rfl rfl ?_
      refine ks_getf (T := TX16) (kf := 22) kx_2390 rfl in_X16 cl_X16 (by decide) o_9 rfl dX16_plus_207 rfl ?_
      refine ks_aload_n dX16_plus_210 rfl rfl ?_
      refine ks_getf (T := TX16) (kf := 24) kx_2392 rfl in_X16 cl_X16 (by decide) o_9 rfl dX16_plus_211 rfl ?_
      refine ks_callV (n := 3) (M' := mX15_subtract) (c_fs (d := (d + 1)) (a := 325) (b := 323) (t := 325) c_9 (by decide) (by decide) (by decide)) r_9 cl_X15 rfl kx_2298 kx_2299 kx_2300 kx_33 kx_2301 (by decide +kernel) rfl (by decide) (Nat.le_of_ble_eq_true rfl) rfl dX16_plus_214 rfl (fun z_10 T_10 y_10 => ?_)
      obtain ⟨rfl, u_10, y_10⟩ := y_10
      obtain ⟨v_10, e_10⟩ : ∃ v, v = sM v_8 v_4 := ⟨_, rfl⟩
      have c_10 : cvR T_10 (va_up (va_up (va_up (va_up (va_up (va_up (va_up (va_up (va_up (va_up R 323 v_1) 324 v_2) 323 v_3) 323 v_4) 325 v_5) 326 v_6) 325 v_7) 325 v_8) 326 v_9) 325 v_10) := by rw [e_10]; exact y_10
      have o_10 := u_10.at o_9 (by decide)
      clear y_10
      have p315_10 : T_10.2.2 315 = some (.inr (17, [.ref 316, .ref 317, .ref 318])) := c_10.2.2.2.2.1
      have p307_10 : T_10.2.2 307 = some (.inr (17, [.ref 308, .ref 309, .ref 310])) := c_10.2.2.1
      have r_10 := c_10.1.1.1
      
      have eH : v_9 = ptH (ptR R 316) (ptR R 308) := by rw [e_9, e_6, e_5, e_2, e_1]; rfl
      have eV : v_4 = adV (ptR R 316).2.1 (ptR R 308).2.2 := by rw [e_4, e_3, e_1]; exact rd_V _ _
      have eK : v_10 = ptK (ptR R 316) (ptR R 308) := by rw [e_10, e_8, e_7, e_5, eV]; exact rd_K _ _ _ _
      have eU : v_2 = adU (ptR R 316).1 (ptR R 308).2.2 := by rw [e_2, e_1]; rfl
      refine ks_aload_n dX16_plus_217 rfl rfl ?_
      refine ks_getf (T := TX16) (kf := 25) kx_2393 rfl in_X16 cl_X16 (by decide) o_10 rfl dX16_plus_218 rfl ?_
      refine ks_callS (n := 1) (M' := mX15_isZero) (c_fz (d := d + 2) (a := 326) c_10 (by decide)) kx_2306 kx_2307 kx_33 kx_2308 (by decide +kernel) rfl (by decide) (Nat.le_of_ble_eq_true rfl) rfl dX16_plus_221 rfl (fun z6 T6 y6 => ?_)
      obtain ⟨rfl, hT6⟩ := y6
      obtain rfl := hT6.symm
      refine ks_if_eqZ (tgt := 267) dX16_plus_224 (by decide) rfl (fun h6 => ?_) (fun h6 => ?_)
      · have d0 : ¬ ptH (ptR R 316) (ptR R 308) = 0 := eH ▸ (of_decide_eq_false h6 : ¬ v_9 = 0)
        refine ks_aload_n dX16_plus_267 rfl rfl ?_
        refine ks_getf (T := TX16) (kf := 15) kx_2383 rfl in_X16 cl_X16 (by decide) o_10 rfl dX16_plus_268 rfl ?_
        refine ks_aload_n dX16_plus_271 rfl rfl ?_
        refine ks_getN (T := TX14) (kf := 2) kx_1797 rfl in_X14 cl_X14 (by decide) p315_10 rfl dX16_plus_272 rfl ?_
        refine ks_aload_n dX16_plus_275 rfl rfl ?_
        refine ks_getN (T := TX14) (kf := 2) kx_1797 rfl in_X14 cl_X14 (by decide) p307_10 rfl dX16_plus_276 rfl ?_
        refine ks_aload_n dX16_plus_279 rfl rfl ?_
        refine ks_getN (T := TX14) (kf := 2) kx_1797 rfl in_X14 cl_X14 (by decide) p315_10 rfl dX16_plus_280 rfl ?_
        refine ks_callV (n := 3) (M' := mX15_multiply) (c_fm (d := (d + 1)) (a := 318) (b := 310) (t := 318) c_10 (by decide) (by decide) (by decide)) r_10 cl_X15 rfl kx_2285 kx_1922 kx_1923 kx_33 kx_1924 (by decide +kernel) rfl (by decide) (Nat.le_of_ble_eq_true rfl) rfl dX16_plus_283 rfl (fun z_11 T_11 y_11 => ?_)
        obtain ⟨rfl, u_11, y_11⟩ := y_11
        obtain ⟨v_11, e_11⟩ : ∃ v, v = mM (R 318) (R 310) := ⟨_, rfl⟩
        have c_11 : cvR T_11 (va_up (va_up (va_up (va_up (va_up (va_up (va_up (va_up (va_up (va_up (va_up R 323 v_1) 324 v_2) 323 v_3) 323 v_4) 325 v_5) 326 v_6) 325 v_7) 325 v_8) 326 v_9) 325 v_10) 318 v_11) := by rw [e_11]; exact y_11
        have o_11 := u_11.at o_10 (by decide)
        clear y_11
        have p315_11 : T_11.2.2 315 = some (.inr (17, [.ref 316, .ref 317, .ref 318])) := c_11.2.2.2.2.1
        have p307_11 : T_11.2.2 307 = some (.inr (17, [.ref 308, .ref 309, .ref 310])) := c_11.2.2.1
        have r_11 := c_11.1.1.1
        refine ks_aload_n dX16_plus_286 rfl rfl ?_
        refine ks_getf (T := TX16) (kf := 15) kx_2383 rfl in_X16 cl_X16 (by decide) o_11 rfl dX16_plus_287 rfl ?_
        refine ks_aload_n dX16_plus_290 rfl rfl ?_
        refine ks_getN (T := TX14) (kf := 2) kx_1797 rfl in_X14 cl_X14 (by decide) p315_11 rfl dX16_plus_291 rfl ?_
        refine ks_aload_n dX16_plus_294 rfl rfl ?_
        refine ks_getf (T := TX16) (kf := 25) kx_2393 rfl in_X16 cl_X16 (by decide) o_11 rfl dX16_plus_295 rfl ?_
        refine ks_aload_n dX16_plus_298 rfl rfl ?_
        refine ks_getN (T := TX14) (kf := 2) kx_1797 rfl in_X14 cl_X14 (by decide) p315_11 rfl dX16_plus_299 rfl ?_
        refine ks_callV (n := 3) (M' := mX15_multiply) (c_fm (d := (d + 1)) (a := 318) (b := 326) (t := 318) c_11 (by decide) (by decide) (by decide)) r_11 cl_X15 rfl kx_2285 kx_1922 kx_1923 kx_33 kx_1924 (by decide +kernel) rfl (by decide) (Nat.le_of_ble_eq_true rfl) rfl dX16_plus_302 rfl (fun z_12 T_12 y_12 => ?_)
        obtain ⟨rfl, u_12, y_12⟩ := y_12
        obtain ⟨v_12, e_12⟩ : ∃ v, v = mM v_11 v_9 := ⟨_, rfl⟩
        have c_12 : cvR T_12 (va_up (va_up (va_up (va_up (va_up (va_up (va_up (va_up (va_up (va_up (va_up (va_up R 323 v_1) 324 v_2) 323 v_3) 323 v_4) 325 v_5) 326 v_6) 325 v_7) 325 v_8) 326 v_9) 325 v_10) 318 v_11) 318 v_12) := by rw [e_12]; exact y_12
        have o_12 := u_12.at o_11 (by decide)
        clear y_12
        have p315_12 : T_12.2.2 315 = some (.inr (17, [.ref 316, .ref 317, .ref 318])) := c_12.2.2.2.2.1
        have p307_12 : T_12.2.2 307 = some (.inr (17, [.ref 308, .ref 309, .ref 310])) := c_12.2.2.1
        have r_12 := c_12.1.1.1
        refine ks_aload_n dX16_plus_305 rfl rfl ?_
        refine ks_getf (T := TX16) (kf := 15) kx_2383 rfl in_X16 cl_X16 (by decide) o_12 rfl dX16_plus_306 rfl ?_
        refine ks_aload_n dX16_plus_309 rfl rfl ?_
        refine ks_getf (T := TX16) (kf := 25) kx_2393 rfl in_X16 cl_X16 (by decide) o_12 rfl dX16_plus_310 rfl ?_
        refine ks_aload_n dX16_plus_313 rfl rfl ?_
        refine ks_getf (T := TX16) (kf := 25) kx_2393 rfl in_X16 cl_X16 (by decide) o_12 rfl dX16_plus_314 rfl ?_
        refine ks_aload_n dX16_plus_317 rfl rfl ?_
        refine ks_getf (T := TX16) (kf := 26) kx_2394 rfl in_X16 cl_X16 (by decide) o_12 rfl dX16_plus_318 rfl ?_
        refine ks_callV (n := 3) (M' := mX15_multiply) (c_fm (d := (d + 1)) (a := 326) (b := 326) (t := 327) c_12 (by decide) (by decide) (by decide)) r_12 cl_X15 rfl kx_2285 kx_1922 kx_1923 kx_33 kx_1924 (by decide +kernel) rfl (by decide) (Nat.le_of_ble_eq_true rfl) rfl dX16_plus_321 rfl (fun z_13 T_13 y_13 => ?_)
        obtain ⟨rfl, u_13, y_13⟩ := y_13
        obtain ⟨v_13, e_13⟩ : ∃ v, v = mM v_9 v_9 := ⟨_, rfl⟩
        have c_13 : cvR T_13 (va_up (va_up (va_up (va_up (va_up (va_up (va_up (va_up (va_up (va_up (va_up (va_up (va_up R 323 v_1) 324 v_2) 323 v_3) 323 v_4) 325 v_5) 326 v_6) 325 v_7) 325 v_8) 326 v_9) 325 v_10) 318 v_11) 318 v_12) 327 v_13) := by rw [e_13]; exact y_13
        have o_13 := u_13.at o_12 (by decide)
        clear y_13
        have p315_13 : T_13.2.2 315 = some (.inr (17, [.ref 316, .ref 317, .ref 318])) := c_13.2.2.2.2.1
        have p307_13 : T_13.2.2 307 = some (.inr (17, [.ref 308, .ref 309, .ref 310])) := c_13.2.2.1
        have r_13 := c_13.1.1.1
        refine ks_aload_n dX16_plus_324 rfl rfl ?_
        refine ks_getf (T := TX16) (kf := 15) kx_2383 rfl in_X16 cl_X16 (by decide) o_13 rfl dX16_plus_325 rfl ?_
        refine ks_aload_n dX16_plus_328 rfl rfl ?_
        refine ks_getf (T := TX16) (kf := 23) kx_2391 rfl in_X16 cl_X16 (by decide) o_13 rfl dX16_plus_329 rfl ?_
        refine ks_aload_n dX16_plus_332 rfl rfl ?_
        refine ks_getf (T := TX16) (kf := 26) kx_2394 rfl in_X16 cl_X16 (by decide) o_13 rfl dX16_plus_333 rfl ?_
        refine ks_aload_n dX16_plus_336 rfl rfl ?_
        refine ks_getf (T := TX16) (kf := 23) kx_2391 rfl in_X16 cl_X16 (by decide) o_13 rfl dX16_plus_337 rfl ?_
        refine ks_callV (n := 3) (M' := mX15_multiply) (c_fm (d := (d + 1)) (a := 324) (b := 327) (t := 324) c_13 (by decide) (by decide) (by decide)) r_13 cl_X15 rfl kx_2285 kx_1922 kx_1923 kx_33 kx_1924 (by decide +kernel) rfl (by decide) (Nat.le_of_ble_eq_true rfl) rfl dX16_plus_340 rfl (fun z_14 T_14 y_14 => ?_)
        obtain ⟨rfl, u_14, y_14⟩ := y_14
        obtain ⟨v_14, e_14⟩ : ∃ v, v = mM v_2 v_13 := ⟨_, rfl⟩
        have c_14 : cvR T_14 (va_up (va_up (va_up (va_up (va_up (va_up (va_up (va_up (va_up (va_up (va_up (va_up (va_up (va_up R 323 v_1) 324 v_2) 323 v_3) 323 v_4) 325 v_5) 326 v_6) 325 v_7) 325 v_8) 326 v_9) 325 v_10) 318 v_11) 318 v_12) 327 v_13) 324 v_14) := by rw [e_14]; exact y_14
        have o_14 := u_14.at o_13 (by decide)
        clear y_14
        have p315_14 : T_14.2.2 315 = some (.inr (17, [.ref 316, .ref 317, .ref 318])) := c_14.2.2.2.2.1
        have p307_14 : T_14.2.2 307 = some (.inr (17, [.ref 308, .ref 309, .ref 310])) := c_14.2.2.1
        have r_14 := c_14.1.1.1
        refine ks_aload_n dX16_plus_343 rfl rfl ?_
        refine ks_getf (T := TX16) (kf := 15) kx_2383 rfl in_X16 cl_X16 (by decide) o_14 rfl dX16_plus_344 rfl ?_
        refine ks_aload_n dX16_plus_347 rfl rfl ?_
        refine ks_getf (T := TX16) (kf := 26) kx_2394 rfl in_X16 cl_X16 (by decide) o_14 rfl dX16_plus_348 rfl ?_
        refine ks_aload_n dX16_plus_351 rfl rfl ?_
        refine ks_getf (T := TX16) (kf := 25) kx_2393 rfl in_X16 cl_X16 (by decide) o_14 rfl dX16_plus_352 rfl ?_
        refine ks_aload_n dX16_plus_355 rfl rfl ?_
        refine ks_getf (T := TX16) (kf := 26) kx_2394 rfl in_X16 cl_X16 (by decide) o_14 rfl dX16_plus_356 rfl ?_
        refine ks_callV (n := 3) (M' := mX15_multiply) (c_fm (d := (d + 1)) (a := 327) (b := 326) (t := 327) c_14 (by decide) (by decide) (by decide)) r_14 cl_X15 rfl kx_2285 kx_1922 kx_1923 kx_33 kx_1924 (by decide +kernel) rfl (by decide) (Nat.le_of_ble_eq_true rfl) rfl dX16_plus_359 rfl (fun z_15 T_15 y_15 => ?_)
        obtain ⟨rfl, u_15, y_15⟩ := y_15
        obtain ⟨v_15, e_15⟩ : ∃ v, v = mM v_13 v_9 := ⟨_, rfl⟩
        have c_15 : cvR T_15 (va_up (va_up (va_up (va_up (va_up (va_up (va_up (va_up (va_up (va_up (va_up (va_up (va_up (va_up (va_up R 323 v_1) 324 v_2) 323 v_3) 323 v_4) 325 v_5) 326 v_6) 325 v_7) 325 v_8) 326 v_9) 325 v_10) 318 v_11) 318 v_12) 327 v_13) 324 v_14) 327 v_15) := by rw [e_15]; exact y_15
        have o_15 := u_15.at o_14 (by decide)
        clear y_15
        have p315_15 : T_15.2.2 315 = some (.inr (17, [.ref 316, .ref 317, .ref 318])) := c_15.2.2.2.2.1
        have p307_15 : T_15.2.2 307 = some (.inr (17, [.ref 308, .ref 309, .ref 310])) := c_15.2.2.1
        have r_15 := c_15.1.1.1
        refine ks_aload_n dX16_plus_362 rfl rfl ?_
        refine ks_getf (T := TX16) (kf := 15) kx_2383 rfl in_X16 cl_X16 (by decide) o_15 rfl dX16_plus_363 rfl ?_
        refine ks_aload_n dX16_plus_366 rfl rfl ?_
        refine ks_getf (T := TX16) (kf := 24) kx_2392 rfl in_X16 cl_X16 (by decide) o_15 rfl dX16_plus_367 rfl ?_
        refine ks_aload_n dX16_plus_370 rfl rfl ?_
        refine ks_getf (T := TX16) (kf := 24) kx_2392 rfl in_X16 cl_X16 (by decide) o_15 rfl dX16_plus_371 rfl ?_
        refine ks_aload_n dX16_plus_374 rfl rfl ?_
        refine ks_getN (T := TX14) (kf := 0) kx_1793 rfl in_X14 cl_X14 (by decide) p315_15 rfl dX16_plus_375 rfl ?_
        refine ks_callV (n := 3) (M' := mX15_multiply) (c_fm (d := (d + 1)) (a := 325) (b := 325) (t := 316) c_15 (by decide) (by decide) (by decide)) r_15 cl_X15 rfl kx_2285 kx_1922 kx_1923 kx_33 kx_1924 (by decide +kernel) rfl (by decide) (Nat.le_of_ble_eq_true rfl) rfl dX16_plus_378 rfl (fun z_16 T_16 y_16 => ?_)
        obtain ⟨rfl, u_16, y_16⟩ := y_16
        obtain ⟨v_16, e_16⟩ : ∃ v, v = mM v_10 v_10 := ⟨_, rfl⟩
        have c_16 : cvR T_16 (va_up (va_up (va_up (va_up (va_up (va_up (va_up (va_up (va_up (va_up (va_up (va_up (va_up (va_up (va_up (va_up R 323 v_1) 324 v_2) 323 v_3) 323 v_4) 325 v_5) 326 v_6) 325 v_7) 325 v_8) 326 v_9) 325 v_10) 318 v_11) 318 v_12) 327 v_13) 324 v_14) 327 v_15) 316 v_16) := by rw [e_16]; exact y_16
        have o_16 := u_16.at o_15 (by decide)
        clear y_16
        have p315_16 : T_16.2.2 315 = some (.inr (17, [.ref 316, .ref 317, .ref 318])) := c_16.2.2.2.2.1
        have p307_16 : T_16.2.2 307 = some (.inr (17, [.ref 308, .ref 309, .ref 310])) := c_16.2.2.1
        have r_16 := c_16.1.1.1
        refine ks_aload_n dX16_plus_381 rfl rfl ?_
        refine ks_getf (T := TX16) (kf := 15) kx_2383 rfl in_X16 cl_X16 (by decide) o_16 rfl dX16_plus_382 rfl ?_
        refine ks_aload_n dX16_plus_385 rfl rfl ?_
        refine ks_getN (T := TX14) (kf := 0) kx_1793 rfl in_X14 cl_X14 (by decide) p315_16 rfl dX16_plus_386 rfl ?_
        refine ks_aload_n dX16_plus_389 rfl rfl ?_
        refine ks_getf (T := TX16) (kf := 26) kx_2394 rfl in_X16 cl_X16 (by decide) o_16 rfl dX16_plus_390 rfl ?_
        refine ks_aload_n dX16_plus_393 rfl rfl ?_
        refine ks_getN (T := TX14) (kf := 0) kx_1793 rfl in_X14 cl_X14 (by decide) p315_16 rfl dX16_plus_394 rfl ?_
        refine ks_callV (n := 3) (M' := mX15_subtract) (c_fs (d := (d + 1)) (a := 316) (b := 327) (t := 316) c_16 (by decide) (by decide) (by decide)) r_16 cl_X15 rfl kx_2298 kx_2299 kx_2300 kx_33 kx_2301 (by decide +kernel) rfl (by decide) (Nat.le_of_ble_eq_true rfl) rfl dX16_plus_397 rfl (fun z_17 T_17 y_17 => ?_)
        obtain ⟨rfl, u_17, y_17⟩ := y_17
        obtain ⟨v_17, e_17⟩ : ∃ v, v = sM v_16 v_15 := ⟨_, rfl⟩
        have c_17 : cvR T_17 (va_up (va_up (va_up (va_up (va_up (va_up (va_up (va_up (va_up (va_up (va_up (va_up (va_up (va_up (va_up (va_up (va_up R 323 v_1) 324 v_2) 323 v_3) 323 v_4) 325 v_5) 326 v_6) 325 v_7) 325 v_8) 326 v_9) 325 v_10) 318 v_11) 318 v_12) 327 v_13) 324 v_14) 327 v_15) 316 v_16) 316 v_17) := by rw [e_17]; exact y_17
        have o_17 := u_17.at o_16 (by decide)
        clear y_17
        have p315_17 : T_17.2.2 315 = some (.inr (17, [.ref 316, .ref 317, .ref 318])) := c_17.2.2.2.2.1
        have p307_17 : T_17.2.2 307 = some (.inr (17, [.ref 308, .ref 309, .ref 310])) := c_17.2.2.1
        have r_17 := c_17.1.1.1
        refine ks_aload_n dX16_plus_400 rfl rfl ?_
        refine ks_getf (T := TX16) (kf := 15) kx_2383 rfl in_X16 cl_X16 (by decide) o_17 rfl dX16_plus_401 rfl ?_
        refine ks_aload_n dX16_plus_404 rfl rfl ?_
        refine ks_getN (T := TX14) (kf := 0) kx_1793 rfl in_X14 cl_X14 (by decide) p315_17 rfl dX16_plus_405 rfl ?_
        refine ks_aload_n dX16_plus_408 rfl rfl ?_
        refine ks_getf (T := TX16) (kf := 23) kx_2391 rfl in_X16 cl_X16 (by decide) o_17 rfl dX16_plus_409 rfl ?_
        refine ks_aload_n dX16_plus_412 rfl rfl ?_
        refine ks_getN (T := TX14) (kf := 0) kx_1793 rfl in_X14 cl_X14 (by decide) p315_17 rfl dX16_plus_413 rfl ?_
        refine ks_callV (n := 3) (M' := mX15_subtract) (c_fs (d := (d + 1)) (a := 316) (b := 324) (t := 316) c_17 (by decide) (by decide) (by decide)) r_17 cl_X15 rfl kx_2298 kx_2299 kx_2300 kx_33 kx_2301 (by decide +kernel) rfl (by decide) (Nat.le_of_ble_eq_true rfl) rfl dX16_plus_416 rfl (fun z_18 T_18 y_18 => ?_)
        obtain ⟨rfl, u_18, y_18⟩ := y_18
        obtain ⟨v_18, e_18⟩ : ∃ v, v = sM v_17 v_14 := ⟨_, rfl⟩
        have c_18 : cvR T_18 (va_up (va_up (va_up (va_up (va_up (va_up (va_up (va_up (va_up (va_up (va_up (va_up (va_up (va_up (va_up (va_up (va_up (va_up R 323 v_1) 324 v_2) 323 v_3) 323 v_4) 325 v_5) 326 v_6) 325 v_7) 325 v_8) 326 v_9) 325 v_10) 318 v_11) 318 v_12) 327 v_13) 324 v_14) 327 v_15) 316 v_16) 316 v_17) 316 v_18) := by rw [e_18]; exact y_18
        have o_18 := u_18.at o_17 (by decide)
        clear y_18
        have p315_18 : T_18.2.2 315 = some (.inr (17, [.ref 316, .ref 317, .ref 318])) := c_18.2.2.2.2.1
        have p307_18 : T_18.2.2 307 = some (.inr (17, [.ref 308, .ref 309, .ref 310])) := c_18.2.2.1
        have r_18 := c_18.1.1.1
        refine ks_aload_n dX16_plus_419 rfl rfl ?_
        refine ks_getf (T := TX16) (kf := 15) kx_2383 rfl in_X16 cl_X16 (by decide) o_18 rfl dX16_plus_420 rfl ?_
        refine ks_aload_n dX16_plus_423 rfl rfl ?_
        refine ks_getN (T := TX14) (kf := 0) kx_1793 rfl in_X14 cl_X14 (by decide) p315_18 rfl dX16_plus_424 rfl ?_
        refine ks_aload_n dX16_plus_427 rfl rfl ?_
        refine ks_getf (T := TX16) (kf := 23) kx_2391 rfl in_X16 cl_X16 (by decide) o_18 rfl dX16_plus_428 rfl ?_
        refine ks_aload_n dX16_plus_431 rfl rfl ?_
        refine ks_getN (T := TX14) (kf := 0) kx_1793 rfl in_X14 cl_X14 (by decide) p315_18 rfl dX16_plus_432 rfl ?_
        refine ks_callV (n := 3) (M' := mX15_subtract) (c_fs (d := (d + 1)) (a := 316) (b := 324) (t := 316) c_18 (by decide) (by decide) (by decide)) r_18 cl_X15 rfl kx_2298 kx_2299 kx_2300 kx_33 kx_2301 (by decide +kernel) rfl (by decide) (Nat.le_of_ble_eq_true rfl) rfl dX16_plus_435 rfl (fun z_19 T_19 y_19 => ?_)
        obtain ⟨rfl, u_19, y_19⟩ := y_19
        obtain ⟨v_19, e_19⟩ : ∃ v, v = sM v_18 v_14 := ⟨_, rfl⟩
        have c_19 : cvR T_19 (va_up (va_up (va_up (va_up (va_up (va_up (va_up (va_up (va_up (va_up (va_up (va_up (va_up (va_up (va_up (va_up (va_up (va_up (va_up R 323 v_1) 324 v_2) 323 v_3) 323 v_4) 325 v_5) 326 v_6) 325 v_7) 325 v_8) 326 v_9) 325 v_10) 318 v_11) 318 v_12) 327 v_13) 324 v_14) 327 v_15) 316 v_16) 316 v_17) 316 v_18) 316 v_19) := by rw [e_19]; exact y_19
        have o_19 := u_19.at o_18 (by decide)
        clear y_19
        have p315_19 : T_19.2.2 315 = some (.inr (17, [.ref 316, .ref 317, .ref 318])) := c_19.2.2.2.2.1
        have p307_19 : T_19.2.2 307 = some (.inr (17, [.ref 308, .ref 309, .ref 310])) := c_19.2.2.1
        have r_19 := c_19.1.1.1
        refine ks_aload_n dX16_plus_438 rfl rfl ?_
        refine ks_getf (T := TX16) (kf := 15) kx_2383 rfl in_X16 cl_X16 (by decide) o_19 rfl dX16_plus_439 rfl ?_
        refine ks_aload_n dX16_plus_442 rfl rfl ?_
        refine ks_getf (T := TX16) (kf := 23) kx_2391 rfl in_X16 cl_X16 (by decide) o_19 rfl dX16_plus_443 rfl ?_
        refine ks_aload_n dX16_plus_446 rfl rfl ?_
        refine ks_getN (T := TX14) (kf := 0) kx_1793 rfl in_X14 cl_X14 (by decide) p315_19 rfl dX16_plus_447 rfl ?_
        refine ks_aload_n dX16_plus_450 rfl rfl ?_
        refine ks_getf (T := TX16) (kf := 23) kx_2391 rfl in_X16 cl_X16 (by decide) o_19 rfl dX16_plus_451 rfl ?_
        refine ks_callV (n := 3) (M' := mX15_subtract) (c_fs (d := (d + 1)) (a := 324) (b := 316) (t := 324) c_19 (by decide) (by decide) (by decide)) r_19 cl_X15 rfl kx_2298 kx_2299 kx_2300 kx_33 kx_2301 (by decide +kernel) rfl (by decide) (Nat.le_of_ble_eq_true rfl) rfl dX16_plus_454 rfl (fun z_20 T_20 y_20 => ?_)
        obtain ⟨rfl, u_20, y_20⟩ := y_20
        obtain ⟨v_20, e_20⟩ : ∃ v, v = sM v_14 v_19 := ⟨_, rfl⟩
        have c_20 : cvR T_20 (va_up (va_up (va_up (va_up (va_up (va_up (va_up (va_up (va_up (va_up (va_up (va_up (va_up (va_up (va_up (va_up (va_up (va_up (va_up (va_up R 323 v_1) 324 v_2) 323 v_3) 323 v_4) 325 v_5) 326 v_6) 325 v_7) 325 v_8) 326 v_9) 325 v_10) 318 v_11) 318 v_12) 327 v_13) 324 v_14) 327 v_15) 316 v_16) 316 v_17) 316 v_18) 316 v_19) 324 v_20) := by rw [e_20]; exact y_20
        have o_20 := u_20.at o_19 (by decide)
        clear y_20
        have p315_20 : T_20.2.2 315 = some (.inr (17, [.ref 316, .ref 317, .ref 318])) := c_20.2.2.2.2.1
        have p307_20 : T_20.2.2 307 = some (.inr (17, [.ref 308, .ref 309, .ref 310])) := c_20.2.2.1
        have r_20 := c_20.1.1.1
        refine ks_aload_n dX16_plus_457 rfl rfl ?_
        refine ks_getf (T := TX16) (kf := 15) kx_2383 rfl in_X16 cl_X16 (by decide) o_20 rfl dX16_plus_458 rfl ?_
        refine ks_aload_n dX16_plus_461 rfl rfl ?_
        refine ks_getf (T := TX16) (kf := 24) kx_2392 rfl in_X16 cl_X16 (by decide) o_20 rfl dX16_plus_462 rfl ?_
        refine ks_aload_n dX16_plus_465 rfl rfl ?_
        refine ks_getf (T := TX16) (kf := 23) kx_2391 rfl in_X16 cl_X16 (by decide) o_20 rfl dX16_plus_466 rfl ?_
        refine ks_aload_n dX16_plus_469 rfl rfl ?_
        refine ks_getN (T := TX14) (kf := 1) kx_1795 rfl in_X14 cl_X14 (by decide) p315_20 rfl dX16_plus_470 rfl ?_
        refine ks_callV (n := 3) (M' := mX15_multiply) (c_fm (d := (d + 1)) (a := 325) (b := 324) (t := 317) c_20 (by decide) (by decide) (by decide)) r_20 cl_X15 rfl kx_2285 kx_1922 kx_1923 kx_33 kx_1924 (by decide +kernel) rfl (by decide) (Nat.le_of_ble_eq_true rfl) rfl dX16_plus_473 rfl (fun z_21 T_21 y_21 => ?_)
        obtain ⟨rfl, u_21, y_21⟩ := y_21
        obtain ⟨v_21, e_21⟩ : ∃ v, v = mM v_10 v_20 := ⟨_, rfl⟩
        have c_21 : cvR T_21 (va_up (va_up (va_up (va_up (va_up (va_up (va_up (va_up (va_up (va_up (va_up (va_up (va_up (va_up (va_up (va_up (va_up (va_up (va_up (va_up (va_up R 323 v_1) 324 v_2) 323 v_3) 323 v_4) 325 v_5) 326 v_6) 325 v_7) 325 v_8) 326 v_9) 325 v_10) 318 v_11) 318 v_12) 327 v_13) 324 v_14) 327 v_15) 316 v_16) 316 v_17) 316 v_18) 316 v_19) 324 v_20) 317 v_21) := by rw [e_21]; exact y_21
        have o_21 := u_21.at o_20 (by decide)
        clear y_21
        have p315_21 : T_21.2.2 315 = some (.inr (17, [.ref 316, .ref 317, .ref 318])) := c_21.2.2.2.2.1
        have p307_21 : T_21.2.2 307 = some (.inr (17, [.ref 308, .ref 309, .ref 310])) := c_21.2.2.1
        have r_21 := c_21.1.1.1
        refine ks_aload_n dX16_plus_476 rfl rfl ?_
        refine ks_getf (T := TX16) (kf := 15) kx_2383 rfl in_X16 cl_X16 (by decide) o_21 rfl dX16_plus_477 rfl ?_
        refine ks_aload_n dX16_plus_480 rfl rfl ?_
        refine ks_getf (T := TX16) (kf := 22) kx_2390 rfl in_X16 cl_X16 (by decide) o_21 rfl dX16_plus_481 rfl ?_
        refine ks_aload_n dX16_plus_484 rfl rfl ?_
        refine ks_getf (T := TX16) (kf := 26) kx_2394 rfl in_X16 cl_X16 (by decide) o_21 rfl dX16_plus_485 rfl ?_
        refine ks_aload_n dX16_plus_488 rfl rfl ?_
        refine ks_getf (T := TX16) (kf := 22) kx_2390 rfl in_X16 cl_X16 (by decide) o_21 rfl dX16_plus_489 rfl ?_
        refine ks_callV (n := 3) (M' := mX15_multiply) (c_fm (d := (d + 1)) (a := 323) (b := 327) (t := 323) c_21 (by decide) (by decide) (by decide)) r_21 cl_X15 rfl kx_2285 kx_1922 kx_1923 kx_33 kx_1924 (by decide +kernel) rfl (by decide) (Nat.le_of_ble_eq_true rfl) rfl dX16_plus_492 rfl (fun z_22 T_22 y_22 => ?_)
        obtain ⟨rfl, u_22, y_22⟩ := y_22
        obtain ⟨v_22, e_22⟩ : ∃ v, v = mM v_4 v_15 := ⟨_, rfl⟩
        have c_22 : cvR T_22 (va_up (va_up (va_up (va_up (va_up (va_up (va_up (va_up (va_up (va_up (va_up (va_up (va_up (va_up (va_up (va_up (va_up (va_up (va_up (va_up (va_up (va_up R 323 v_1) 324 v_2) 323 v_3) 323 v_4) 325 v_5) 326 v_6) 325 v_7) 325 v_8) 326 v_9) 325 v_10) 318 v_11) 318 v_12) 327 v_13) 324 v_14) 327 v_15) 316 v_16) 316 v_17) 316 v_18) 316 v_19) 324 v_20) 317 v_21) 323 v_22) := by rw [e_22]; exact y_22
        have o_22 := u_22.at o_21 (by decide)
        clear y_22
        have p315_22 : T_22.2.2 315 = some (.inr (17, [.ref 316, .ref 317, .ref 318])) := c_22.2.2.2.2.1
        have p307_22 : T_22.2.2 307 = some (.inr (17, [.ref 308, .ref 309, .ref 310])) := c_22.2.2.1
        have r_22 := c_22.1.1.1
        refine ks_aload_n dX16_plus_495 rfl rfl ?_
        refine ks_getf (T := TX16) (kf := 15) kx_2383 rfl in_X16 cl_X16 (by decide) o_22 rfl dX16_plus_496 rfl ?_
        refine ks_aload_n dX16_plus_499 rfl rfl ?_
        refine ks_getN (T := TX14) (kf := 1) kx_1795 rfl in_X14 cl_X14 (by decide) p315_22 rfl dX16_plus_500 rfl ?_
        refine ks_aload_n dX16_plus_503 rfl rfl ?_
        refine ks_getf (T := TX16) (kf := 22) kx_2390 rfl in_X16 cl_X16 (by decide) o_22 rfl dX16_plus_504 rfl ?_
        refine ks_aload_n dX16_plus_507 rfl rfl ?_
        refine ks_getN (T := TX14) (kf := 1) kx_1795 rfl in_X14 cl_X14 (by decide) p315_22 rfl dX16_plus_508 rfl ?_
        refine ks_callV (n := 3) (M' := mX15_subtract) (c_fs (d := (d + 1)) (a := 317) (b := 323) (t := 317) c_22 (by decide) (by decide) (by decide)) r_22 cl_X15 rfl kx_2298 kx_2299 kx_2300 kx_33 kx_2301 (by decide +kernel) rfl (by decide) (Nat.le_of_ble_eq_true rfl) rfl dX16_plus_511 rfl (fun z_23 T_23 y_23 => ?_)
        obtain ⟨rfl, u_23, y_23⟩ := y_23
        obtain ⟨v_23, e_23⟩ : ∃ v, v = sM v_21 v_22 := ⟨_, rfl⟩
        have c_23 : cvR T_23 (va_up (va_up (va_up (va_up (va_up (va_up (va_up (va_up (va_up (va_up (va_up (va_up (va_up (va_up (va_up (va_up (va_up (va_up (va_up (va_up (va_up (va_up (va_up R 323 v_1) 324 v_2) 323 v_3) 323 v_4) 325 v_5) 326 v_6) 325 v_7) 325 v_8) 326 v_9) 325 v_10) 318 v_11) 318 v_12) 327 v_13) 324 v_14) 327 v_15) 316 v_16) 316 v_17) 316 v_18) 316 v_19) 324 v_20) 317 v_21) 323 v_22) 317 v_23) := by rw [e_23]; exact y_23
        have o_23 := u_23.at o_22 (by decide)
        clear y_23
        have p315_23 : T_23.2.2 315 = some (.inr (17, [.ref 316, .ref 317, .ref 318])) := c_23.2.2.2.2.1
        have p307_23 : T_23.2.2 307 = some (.inr (17, [.ref 308, .ref 309, .ref 310])) := c_23.2.2.1
        have r_23 := c_23.1.1.1
        refine ks_ret rfl dX16_plus_514 ?_
        refine ⟨rfl, (((((((((((((((((((((((ks_up.rf _ _).trans (u_1.mono (by decide))).trans (u_2.mono (by decide))).trans (u_3.mono (by decide))).trans (u_4.mono (by decide))).trans (u_5.mono (by decide))).trans (u_6.mono (by decide))).trans (u_7.mono (by decide))).trans (u_8.mono (by decide))).trans (u_9.mono (by decide))).trans (u_10.mono (by decide))).trans (u_11.mono (by decide))).trans (u_12.mono (by decide))).trans (u_13.mono (by decide))).trans (u_14.mono (by decide))).trans (u_15.mono (by decide))).trans (u_16.mono (by decide))).trans (u_17.mono (by decide))).trans (u_18.mono (by decide))).trans (u_19.mono (by decide))).trans (u_20.mono (by decide))).trans (u_21.mono (by decide))).trans (u_22.mono (by decide))).trans (u_23.mono (by decide)), _, c_23, ?_, fun k hk hk2 => ?_⟩
        · show (v_19, v_23, v_12) = _
          unfold rfA
          rw [if_neg q0, if_neg p0, if_neg d0, ← eH, ← eK, ← eU, ← eV]
          clear eH eK eU eV
          refine Prod.ext ?_ (Prod.ext ?_ ?_)
          · show v_19 = adX _ _ _
            unfold adX
            rw [e_19, e_18, e_17, e_16, e_15, e_14, e_13]
          · show v_23 = adY _ _ _ _
            unfold adY adX
            rw [e_23, e_22, e_21, e_20, e_19, e_18, e_17, e_16, e_15, e_14, e_13, mM_comm v_10]
          · show v_12 = adZ _ _ _
            unfold adZ
            rw [e_12, e_11]
            rfl
        · rw [va_up_ne _ _ (by omega), va_up_ne _ _ (by omega), va_up_ne _ _ (by omega), va_up_ne _ _ (by omega), va_up_ne _ _ (by omega), va_up_ne _ _ (by omega), va_up_ne _ _ (by omega), va_up_ne _ _ (by omega), va_up_ne _ _ (by omega), va_up_ne _ _ (by omega), va_up_ne _ _ (by omega), va_up_ne _ _ (by omega), va_up_ne _ _ (by omega), va_up_ne _ _ (by omega), va_up_ne _ _ (by omega), va_up_ne _ _ (by omega), va_up_ne _ _ (by omega), va_up_ne _ _ (by omega), va_up_ne _ _ (by omega), va_up_ne _ _ (by omega), va_up_ne _ _ (by omega), va_up_ne _ _ (by omega), va_up_ne _ _ (by omega)]
      · have d0 : ptH (ptR R 316) (ptR R 308) = 0 := eH ▸ (of_decide_eq_true h6 : v_9 = 0)
        refine ks_aload_n dX16_plus_227 rfl rfl ?_
        refine ks_getf (T := TX16) (kf := 24) kx_2392 rfl in_X16 cl_X16 (by decide) o_10 rfl dX16_plus_228 rfl ?_
        refine ks_callS (n := 1) (M' := mX15_isZero) (c_fz (d := d + 2) (a := 325) c_10 (by decide)) kx_2306 kx_2307 kx_33 kx_2308 (by decide +kernel) rfl (by decide) (Nat.le_of_ble_eq_true rfl) rfl dX16_plus_231 rfl (fun z5 T5 y5 => ?_)
        obtain ⟨rfl, hT5⟩ := y5
        obtain rfl := hT5.symm
        refine ks_if_eqZ (tgt := 245) dX16_plus_234 (by decide) rfl (fun h5 => ?_) (fun h5 => ?_)
        · have k0 : ¬ ptK (ptR R 316) (ptR R 308) = 0 := eK ▸ (of_decide_eq_false h5 : ¬ v_10 = 0)
          obtain ⟨gz, ez, -, -⟩ := (c_10.2.1 318 (by decide)).1
          refine ks_iconst (x := nI 0) dX16_plus_245 (by decide) rfl ?_
          refine ks_istore_n dX16_plus_246 (by decide) rfl ?_
          refine ks_sub [(3, _), (0, _), (1, _), (2, _)] rfl ?_
          refine ks_iload_n dX16_plus_247 rfl rfl ?_
          refine ks_bipush (x := nI 8) dX16_plus_248 (by decide) rfl ?_
          refine ks_icmp_geN (tgt := 266) (by decide) (by decide) dX16_plus_250 (by decide) rfl (fun h => absurd h (by decide)) (fun _ => ?_)
          refine ks_aload_n dX16_plus_253 rfl rfl ?_
          refine ks_getN (T := TX14) (kf := 2) kx_1797 rfl in_X14 cl_X14 (by decide) p315_10 rfl dX16_plus_254 rfl ?_
          refine ks_iload_n dX16_plus_257 rfl rfl ?_
          refine ks_iconst (x := nI 0) dX16_plus_258 (by decide) rfl ?_
          refine ks_iastNN (i := 0) (v := 0) (by decide) ez (by decide) (by decide) dX16_plus_259 rfl ?_
          refine ks_incN (c := 1) (e := 1) dX16_plus_260 rfl (by decide) rfl (by decide) rfl ?_
          refine ks_sub [(3, _), (0, _), (1, _), (2, _)] rfl ?_
          refine ks_goto (tgt := 247) dX16_plus_263 (by decide) ?_
          refine ks_iload_n dX16_plus_247 rfl rfl ?_
          refine ks_bipush (x := nI 8) dX16_plus_248 (by decide) rfl ?_
          refine ks_icmp_geN (tgt := 266) (by decide) (by decide) dX16_plus_250 (by decide) rfl (fun h => absurd h (by decide)) (fun _ => ?_)
          refine ks_aload_n dX16_plus_253 rfl rfl ?_
          refine ks_getN (T := TX14) (kf := 2) kx_1797 rfl in_X14 cl_X14 (by decide) ((ks_set_ne _ _ (by decide)).trans p315_10) rfl dX16_plus_254 rfl ?_
          refine ks_iload_n dX16_plus_257 rfl rfl ?_
          refine ks_iconst (x := nI 0) dX16_plus_258 (by decide) rfl ?_
          refine ks_iastNN (i := 1) (v := 0) (by decide) (ks_set_same _ _ _) (by decide) (by decide) dX16_plus_259 rfl ?_
          refine ks_incN (c := 1) (e := 2) dX16_plus_260 rfl (by decide) rfl (by decide) rfl ?_
          refine ks_sub [(3, _), (0, _), (1, _), (2, _)] rfl ?_
          refine ks_goto (tgt := 247) dX16_plus_263 (by decide) ?_
          refine ks_iload_n dX16_plus_247 rfl rfl ?_
          refine ks_bipush (x := nI 8) dX16_plus_248 (by decide) rfl ?_
          refine ks_icmp_geN (tgt := 266) (by decide) (by decide) dX16_plus_250 (by decide) rfl (fun h => absurd h (by decide)) (fun _ => ?_)
          refine ks_aload_n dX16_plus_253 rfl rfl ?_
          refine ks_getN (T := TX14) (kf := 2) kx_1797 rfl in_X14 cl_X14 (by decide) ((ks_set_ne _ _ (by decide)).trans ((ks_set_ne _ _ (by decide)).trans p315_10)) rfl dX16_plus_254 rfl ?_
          refine ks_iload_n dX16_plus_257 rfl rfl ?_
          refine ks_iconst (x := nI 0) dX16_plus_258 (by decide) rfl ?_
          refine ks_iastNN (i := 2) (v := 0) (by decide) (ks_set_same _ _ _) (by decide) (by decide) dX16_plus_259 rfl ?_
          refine ks_incN (c := 1) (e := 3) dX16_plus_260 rfl (by decide) rfl (by decide) rfl ?_
          refine ks_sub [(3, _), (0, _), (1, _), (2, _)] rfl ?_
          refine ks_goto (tgt := 247) dX16_plus_263 (by decide) ?_
          refine ks_iload_n dX16_plus_247 rfl rfl ?_
          refine ks_bipush (x := nI 8) dX16_plus_248 (by decide) rfl ?_
          refine ks_icmp_geN (tgt := 266) (by decide) (by decide) dX16_plus_250 (by decide) rfl (fun h => absurd h (by decide)) (fun _ => ?_)
          refine ks_aload_n dX16_plus_253 rfl rfl ?_
          refine ks_getN (T := TX14) (kf := 2) kx_1797 rfl in_X14 cl_X14 (by decide) ((ks_set_ne _ _ (by decide)).trans ((ks_set_ne _ _ (by decide)).trans ((ks_set_ne _ _ (by decide)).trans p315_10))) rfl dX16_plus_254 rfl ?_
          refine ks_iload_n dX16_plus_257 rfl rfl ?_
          refine ks_iconst (x := nI 0) dX16_plus_258 (by decide) rfl ?_
          refine ks_iastNN (i := 3) (v := 0) (by decide) (ks_set_same _ _ _) (by decide) (by decide) dX16_plus_259 rfl ?_
          refine ks_incN (c := 1) (e := 4) dX16_plus_260 rfl (by decide) rfl (by decide) rfl ?_
          refine ks_sub [(3, _), (0, _), (1, _), (2, _)] rfl ?_
          refine ks_goto (tgt := 247) dX16_plus_263 (by decide) ?_
          refine ks_iload_n dX16_plus_247 rfl rfl ?_
          refine ks_bipush (x := nI 8) dX16_plus_248 (by decide) rfl ?_
          refine ks_icmp_geN (tgt := 266) (by decide) (by decide) dX16_plus_250 (by decide) rfl (fun h => absurd h (by decide)) (fun _ => ?_)
          refine ks_aload_n dX16_plus_253 rfl rfl ?_
          refine ks_getN (T := TX14) (kf := 2) kx_1797 rfl in_X14 cl_X14 (by decide) ((ks_set_ne _ _ (by decide)).trans ((ks_set_ne _ _ (by decide)).trans ((ks_set_ne _ _ (by decide)).trans ((ks_set_ne _ _ (by decide)).trans p315_10)))) rfl dX16_plus_254 rfl ?_
          refine ks_iload_n dX16_plus_257 rfl rfl ?_
          refine ks_iconst (x := nI 0) dX16_plus_258 (by decide) rfl ?_
          refine ks_iastNN (i := 4) (v := 0) (by decide) (ks_set_same _ _ _) (by decide) (by decide) dX16_plus_259 rfl ?_
          refine ks_incN (c := 1) (e := 5) dX16_plus_260 rfl (by decide) rfl (by decide) rfl ?_
          refine ks_sub [(3, _), (0, _), (1, _), (2, _)] rfl ?_
          refine ks_goto (tgt := 247) dX16_plus_263 (by decide) ?_
          refine ks_iload_n dX16_plus_247 rfl rfl ?_
          refine ks_bipush (x := nI 8) dX16_plus_248 (by decide) rfl ?_
          refine ks_icmp_geN (tgt := 266) (by decide) (by decide) dX16_plus_250 (by decide) rfl (fun h => absurd h (by decide)) (fun _ => ?_)
          refine ks_aload_n dX16_plus_253 rfl rfl ?_
          refine ks_getN (T := TX14) (kf := 2) kx_1797 rfl in_X14 cl_X14 (by decide) ((ks_set_ne _ _ (by decide)).trans ((ks_set_ne _ _ (by decide)).trans ((ks_set_ne _ _ (by decide)).trans ((ks_set_ne _ _ (by decide)).trans ((ks_set_ne _ _ (by decide)).trans p315_10))))) rfl dX16_plus_254 rfl ?_
          refine ks_iload_n dX16_plus_257 rfl rfl ?_
          refine ks_iconst (x := nI 0) dX16_plus_258 (by decide) rfl ?_
          refine ks_iastNN (i := 5) (v := 0) (by decide) (ks_set_same _ _ _) (by decide) (by decide) dX16_plus_259 rfl ?_
          refine ks_incN (c := 1) (e := 6) dX16_plus_260 rfl (by decide) rfl (by decide) rfl ?_
          refine ks_sub [(3, _), (0, _), (1, _), (2, _)] rfl ?_
          refine ks_goto (tgt := 247) dX16_plus_263 (by decide) ?_
          refine ks_iload_n dX16_plus_247 rfl rfl ?_
          refine ks_bipush (x := nI 8) dX16_plus_248 (by decide) rfl ?_
          refine ks_icmp_geN (tgt := 266) (by decide) (by decide) dX16_plus_250 (by decide) rfl (fun h => absurd h (by decide)) (fun _ => ?_)
          refine ks_aload_n dX16_plus_253 rfl rfl ?_
          refine ks_getN (T := TX14) (kf := 2) kx_1797 rfl in_X14 cl_X14 (by decide) ((ks_set_ne _ _ (by decide)).trans ((ks_set_ne _ _ (by decide)).trans ((ks_set_ne _ _ (by decide)).trans ((ks_set_ne _ _ (by decide)).trans ((ks_set_ne _ _ (by decide)).trans ((ks_set_ne _ _ (by decide)).trans p315_10)))))) rfl dX16_plus_254 rfl ?_
          refine ks_iload_n dX16_plus_257 rfl rfl ?_
          refine ks_iconst (x := nI 0) dX16_plus_258 (by decide) rfl ?_
          refine ks_iastNN (i := 6) (v := 0) (by decide) (ks_set_same _ _ _) (by decide) (by decide) dX16_plus_259 rfl ?_
          refine ks_incN (c := 1) (e := 7) dX16_plus_260 rfl (by decide) rfl (by decide) rfl ?_
          refine ks_sub [(3, _), (0, _), (1, _), (2, _)] rfl ?_
          refine ks_goto (tgt := 247) dX16_plus_263 (by decide) ?_
          refine ks_iload_n dX16_plus_247 rfl rfl ?_
          refine ks_bipush (x := nI 8) dX16_plus_248 (by decide) rfl ?_
          refine ks_icmp_geN (tgt := 266) (by decide) (by decide) dX16_plus_250 (by decide) rfl (fun h => absurd h (by decide)) (fun _ => ?_)
          refine ks_aload_n dX16_plus_253 rfl rfl ?_
          refine ks_getN (T := TX14) (kf := 2) kx_1797 rfl in_X14 cl_X14 (by decide) ((ks_set_ne _ _ (by decide)).trans ((ks_set_ne _ _ (by decide)).trans ((ks_set_ne _ _ (by decide)).trans ((ks_set_ne _ _ (by decide)).trans ((ks_set_ne _ _ (by decide)).trans ((ks_set_ne _ _ (by decide)).trans ((ks_set_ne _ _ (by decide)).trans p315_10))))))) rfl dX16_plus_254 rfl ?_
          refine ks_iload_n dX16_plus_257 rfl rfl ?_
          refine ks_iconst (x := nI 0) dX16_plus_258 (by decide) rfl ?_
          refine ks_iastNN (i := 7) (v := 0) (by decide) (ks_set_same _ _ _) (by decide) (by decide) dX16_plus_259 rfl ?_
          refine ks_incN (c := 1) (e := 8) dX16_plus_260 rfl (by decide) rfl (by decide) rfl ?_
          refine ks_sub [(3, _), (0, _), (1, _), (2, _)] rfl ?_
          refine ks_goto (tgt := 247) dX16_plus_263 (by decide) ?_
          refine ks_iload_n dX16_plus_247 rfl rfl ?_
          refine ks_bipush (x := nI 8) dX16_plus_248 (by decide) rfl ?_
          refine ks_icmp_geN (tgt := 266) (by decide) (by decide) dX16_plus_250 (by decide) rfl (fun _ => ?_) (fun h => absurd h (by decide))
          refine ks_ret rfl dX16_plus_266 ?_
          refine ⟨rfl, (((((((((((ks_up.rf _ _).trans (u_1.mono (by decide))).trans (u_2.mono (by decide))).trans (u_3.mono (by decide))).trans (u_4.mono (by decide))).trans (u_5.mono (by decide))).trans (u_6.mono (by decide))).trans (u_7.mono (by decide))).trans (u_8.mono (by decide))).trans (u_9.mono (by decide))).trans (u_10.mono (by decide))).trans (up8.mono (by decide)), _, c_10.z (by decide) up8 (ks_set_same _ _ _) z8, ?_, fun k hk hk2 => ?_⟩
          · unfold rfA
            rw [if_neg q0, if_neg p0, if_pos d0, if_neg k0]
            rfl
          · rw [va_up_ne _ _ (by omega), va_up_ne _ _ (by omega), va_up_ne _ _ (by omega), va_up_ne _ _ (by omega), va_up_ne _ _ (by omega), va_up_ne _ _ (by omega), va_up_ne _ _ (by omega), va_up_ne _ _ (by omega), va_up_ne _ _ (by omega), va_up_ne _ _ (by omega), va_up_ne _ _ (by omega)]
        · have k0 : ptK (ptR R 316) (ptR R 308) = 0 := eK ▸ (of_decide_eq_true h5 : v_10 = 0)
          refine ks_aload_n dX16_plus_237 rfl rfl ?_
          refine ks_aload_n dX16_plus_238 rfl rfl ?_
          refine ks_callV (n := 1) (M' := mX16_doubled) (c_md_doubled315 (d := d) o_10 c_10) o_10 cl_X16 rfl kx_2313 kx_2315 kxp_116 kx_30 kx_2316 (by decide +kernel) rfl (by decide) (Nat.le_of_ble_eq_true rfl) rfl dX16_plus_239 rfl (fun z4 T4 y4 => ?_)
          obtain ⟨rfl, u4, R4, c4, e4, k4⟩ := y4
          refine ks_goto (tgt := 266) dX16_plus_242 (by decide) ?_
          refine ks_ret rfl dX16_plus_266 ?_
          refine ⟨rfl, (((((((((((ks_up.rf _ _).trans (u_1.mono (by decide))).trans (u_2.mono (by decide))).trans (u_3.mono (by decide))).trans (u_4.mono (by decide))).trans (u_5.mono (by decide))).trans (u_6.mono (by decide))).trans (u_7.mono (by decide))).trans (u_8.mono (by decide))).trans (u_9.mono (by decide))).trans (u_10.mono (by decide))).trans u4, R4, c4, ?_, fun k hk hk2 => ?_⟩
          · rw [e4]
            unfold rfA
            rw [if_neg q0, if_neg p0, if_pos d0, if_pos k0]
            rfl
          · rw [k4 k hk hk2]
            rw [va_up_ne _ _ (by omega), va_up_ne _ _ (by omega), va_up_ne _ _ (by omega), va_up_ne _ _ (by omega), va_up_ne _ _ (by omega), va_up_ne _ _ (by omega), va_up_ne _ _ (by omega), va_up_ne _ _ (by omega), va_up_ne _ _ (by omega), va_up_ne _ _ (by omega)]
    · refine ks_aload_n dX16_plus_21 rfl rfl ?_
      refine ks_aload_n dX16_plus_22 rfl rfl ?_
      refine ks_callV (n := 1) (M' := mX14_take) (c_pt_take307 (d := d + 1) hC) p315_0 cl_X14 rfl kx_2321 kx_2322 kx_2323 kx_31 kx_2324 (by decide +kernel) rfl (by decide) (Nat.le_of_ble_eq_true rfl) rfl dX16_plus_23 rfl (fun z7 T7 y7 => ?_)
      obtain ⟨rfl, u7, c7⟩ := y7
      refine ks_ret rfl dX16_plus_26 ?_
      refine ⟨rfl, u7.mono (by decide), _, c7, ?_, fun k hk hk2 => ?_⟩
      · unfold rfA
        rw [if_neg q0, if_pos (show (ptR R 316).2.2 = 0 from of_decide_eq_true h8)]
        rfl
      · rw [va_up_ne _ _ (by omega), va_up_ne _ _ (by omega), va_up_ne _ _ (by omega)]
  · refine ks_ret rfl dX16_plus_10 ?_
    refine ⟨rfl, ks_up.rf _ _, R, hC, ?_, fun _ _ _ => rfl⟩
    unfold rfA
    rw [if_pos (show (ptR R 308).2.2 = 0 from of_decide_eq_true h9)]
set_option maxRecDepth 100000 in
set_option maxHeartbeats 3200000 in
theorem c_md_plus311 {l : Launch} {G : ks_G} {d : Nat} {S : ks_S} {V : Nat → Value} {R : Nat → Nat} (hO : S.2.2 290 = some (rfE V)) (hC : cvR S R) : ks_P l G yX16_plus mX16_plus (d + 3) [.ref 290, .ref 319, .ref 311] S (fun z S' => z = none ∧ ks_up S S' [552, 320, 321, 322, 323, 324, 325, 326, 327, 328] ∧ ∃ R', cvR S' R' ∧ ptR R' 320 = rfA (ptR R 320) (ptR R 312) ∧ ∀ k, k < 320 ∨ 322 < k → k < 323 → R' k = R k) := by
  have p319_0 : S.2.2 319 = some (.inr (17, [.ref 320, .ref 321, .ref 322])) := hC.2.2.2.2.2
  have p311_0 : S.2.2 311 = some (.inr (17, [.ref 312, .ref 313, .ref 314])) := hC.2.2.2.1
  have r_0 := hC.1.1.1
  refine ks_of (by decide) rfl rfl (Nat.le_of_ble_eq_true rfl) ?_
  show ks_X l G mX16_plus (d + 3) 0 [(0, .ref 290), (1, .ref 319), (2, .ref 311)] [] S _
  refine ks_aload_n dX16_plus_0 rfl rfl ?_
  refine ks_getN (T := TX14) (kf := 2) kx_1797 rfl in_X14 cl_X14 (by decide) p311_0 rfl dX16_plus_1 rfl ?_
  refine ks_callS (n := 1) (M' := mX15_isZero) (c_fz (d := d + 2) (a := 314) hC (by decide)) kx_2306 kx_2307 kx_33 kx_2308 (by decide +kernel) rfl (by decide) (Nat.le_of_ble_eq_true rfl) rfl dX16_plus_4 rfl (fun z9 T9 y9 => ?_)
  obtain ⟨rfl, hT9⟩ := y9
  obtain rfl := hT9.symm
  refine ks_if_eqZ (tgt := 11) dX16_plus_7 (by decide) rfl (fun h9 => ?_) (fun h9 => ?_)
  · have q0 : ¬ (ptR R 312).2.2 = 0 := of_decide_eq_false h9
    refine ks_aload_n dX16_plus_11 rfl rfl ?_
    refine ks_getN (T := TX14) (kf := 2) kx_1797 rfl in_X14 cl_X14 (by decide) p319_0 rfl dX16_plus_12 rfl ?_
    refine ks_callS (n := 1) (M' := mX15_isZero) (c_fz (d := d + 2) (a := 322) hC (by decide)) kx_2306 kx_2307 kx_33 kx_2308 (by decide +kernel) rfl (by decide) (Nat.le_of_ble_eq_true rfl) rfl dX16_plus_15 rfl (fun z8 T8 y8 => ?_)
    obtain ⟨rfl, hT8⟩ := y8
    obtain rfl := hT8.symm
    refine ks_if_eqZ (tgt := 27) dX16_plus_18 (by decide) rfl (fun h8 => ?_) (fun h8 => ?_)
    · have p0 : ¬ (ptR R 320).2.2 = 0 := of_decide_eq_false h8
      refine ks_aload_n dX16_plus_27 rfl rfl ?_
      refine ks_getf (T := TX16) (kf := 15) kx_2383 rfl in_X16 cl_X16 (by decide) hO rfl dX16_plus_28 rfl ?_
      refine ks_aload_n dX16_plus_31 rfl rfl ?_
      refine ks_getN (T := TX14) (kf := 2) kx_1797 rfl in_X14 cl_X14 (by decide) p311_0 rfl dX16_plus_32 rfl ?_
      refine ks_aload_n dX16_plus_35 rfl rfl ?_
      refine ks_getN (T := TX14) (kf := 2) kx_1797 rfl in_X14 cl_X14 (by decide) p311_0 rfl dX16_plus_36 rfl ?_
      refine ks_aload_n dX16_plus_39 rfl rfl ?_
      refine ks_getf (T := TX16) (kf := 22) kx_2390 rfl in_X16 cl_X16 (by decide) hO rfl dX16_plus_40 rfl ?_
      refine ks_callV (n := 3) (M' := mX15_multiply) (c_fm (d := (d + 1)) (a := 314) (b := 314) (t := 323) hC (by decide) (by decide) (by decide)) r_0 cl_X15 rfl kx_2285 kx_1922 kx_1923 kx_33 kx_1924 (by decide +kernel) rfl (by decide) (Nat.le_of_ble_eq_true rfl) rfl dX16_plus_43 rfl (fun z_1 T_1 y_1 => ?_)
      obtain ⟨rfl, u_1, y_1⟩ := y_1
      obtain ⟨v_1, e_1⟩ : ∃ v, v = mM (R 314) (R 314) := ⟨_, rfl⟩
      have c_1 : cvR T_1 (va_up R 323 v_1) := by rw [e_1]; exact y_1
      have o_1 := u_1.at hO (by decide)
      clear y_1
      have p319_1 : T_1.2.2 319 = some (.inr (17, [.ref 320, .ref 321, .ref 322])) := c_1.2.2.2.2.2
      have p311_1 : T_1.2.2 311 = some (.inr (17, [.ref 312, .ref 313, .ref 314])) := c_1.2.2.2.1
      have r_1 := c_1.1.1.1
      refine ks_aload_n dX16_plus_46 rfl rfl ?_
      refine ks_getf (T := TX16) (kf := 15) kx_2383 rfl in_X16 cl_X16 (by decide) o_1 rfl dX16_plus_47 rfl ?_
      refine ks_aload_n dX16_plus_50 rfl rfl ?_
      refine ks_getN (T := TX14) (kf := 0) kx_1793 rfl in_X14 cl_X14 (by decide) p319_1 rfl dX16_plus_51 rfl ?_
      refine ks_aload_n dX16_plus_54 rfl rfl ?_
      refine ks_getf (T := TX16) (kf := 22) kx_2390 rfl in_X16 cl_X16 (by decide) o_1 rfl dX16_plus_55 rfl ?_
      refine ks_aload_n dX16_plus_58 rfl rfl ?_
      refine ks_getf (T := TX16) (kf := 23) kx_2391 rfl in_X16 cl_X16 (by decide) o_1 rfl dX16_plus_59 rfl ?_
      refine ks_callV (n := 3) (M' := mX15_multiply) (c_fm (d := (d + 1)) (a := 320) (b := 323) (t := 324) c_1 (by decide) (by decide) (by decide)) r_1 cl_X15 rfl kx_2285 kx_1922 kx_1923 kx_33 kx_1924 (by decide +kernel) rfl (by decide) (Nat.le_of_ble_eq_true rfl) rfl dX16_plus_62 rfl (fun z_2 T_2 y_2 => ?_)
      obtain ⟨rfl, u_2, y_2⟩ := y_2
      obtain ⟨v_2, e_2⟩ : ∃ v, v = mM (R 320) v_1 := ⟨_, rfl⟩
      have c_2 : cvR T_2 (va_up (va_up R 323 v_1) 324 v_2) := by rw [e_2]; exact y_2
      have o_2 := u_2.at o_1 (by decide)
      clear y_2
      have p319_2 : T_2.2.2 319 = some (.inr (17, [.ref 320, .ref 321, .ref 322])) := c_2.2.2.2.2.2
      have p311_2 : T_2.2.2 311 = some (.inr (17, [.ref 312, .ref 313, .ref 314])) := c_2.2.2.2.1
      have r_2 := c_2.1.1.1
      refine ks_aload_n dX16_plus_65 rfl rfl ?_
      refine ks_getf (T := TX16) (kf := 15) kx_2383 rfl in_X16 cl_X16 (by decide) o_2 rfl dX16_plus_66 rfl ?_
      refine ks_aload_n dX16_plus_69 rfl rfl ?_
      refine ks_getf (T := TX16) (kf := 22) kx_2390 rfl in_X16 cl_X16 (by decide) o_2 rfl dX16_plus_70 rfl ?_
      refine ks_aload_n dX16_plus_73 rfl rfl ?_
      refine ks_getN (T := TX14) (kf := 2) kx_1797 rfl in_X14 cl_X14 (by decide) p311_2 rfl dX16_plus_74 rfl ?_
      refine ks_aload_n dX16_plus_77 rfl rfl ?_
      refine ks_getf (T := TX16) (kf := 22) kx_2390 rfl in_X16 cl_X16 (by decide) o_2 rfl dX16_plus_78 rfl ?_
      refine ks_callV (n := 3) (M' := mX15_multiply) (c_fm (d := (d + 1)) (a := 323) (b := 314) (t := 323) c_2 (by decide) (by decide) (by decide)) r_2 cl_X15 rfl kx_2285 kx_1922 kx_1923 kx_33 kx_1924 (by decide +kernel) rfl (by decide) (Nat.le_of_ble_eq_true rfl) rfl dX16_plus_81 rfl (fun z_3 T_3 y_3 => ?_)
      obtain ⟨rfl, u_3, y_3⟩ := y_3
      obtain ⟨v_3, e_3⟩ : ∃ v, v = mM v_1 (R 314) := ⟨_, rfl⟩
      have c_3 : cvR T_3 (va_up (va_up (va_up R 323 v_1) 324 v_2) 323 v_3) := by rw [e_3]; exact y_3
      have o_3 := u_3.at o_2 (by decide)
      clear y_3
      have p319_3 : T_3.2.2 319 = some (.inr (17, [.ref 320, .ref 321, .ref 322])) := c_3.2.2.2.2.2
      have p311_3 : T_3.2.2 311 = some (.inr (17, [.ref 312, .ref 313, .ref 314])) := c_3.2.2.2.1
      have r_3 := c_3.1.1.1
      refine ks_aload_n dX16_plus_84 rfl rfl ?_
      refine ks_getf (T := TX16) (kf := 15) kx_2383 rfl in_X16 cl_X16 (by decide) o_3 rfl dX16_plus_85 rfl ?_
      refine ks_aload_n dX16_plus_88 rfl rfl ?_
      refine ks_getN (T := TX14) (kf := 1) kx_1795 rfl in_X14 cl_X14 (by decide) p319_3 rfl dX16_plus_89 rfl ?_
      refine ks_aload_n dX16_plus_92 rfl rfl ?_
      refine ks_getf (T := TX16) (kf := 22) kx_2390 rfl in_X16 cl_X16 (by decide) o_3 rfl dX16_plus_93 rfl ?_
      refine ks_aload_n dX16_plus_96 rfl rfl ?_
      refine ks_getf (T := TX16) (kf := 22) kx_2390 rfl in_X16 cl_X16 (by decide) o_3 rfl dX16_plus_97 rfl ?_
      refine ks_callV (n := 3) (M' := mX15_multiply) (c_fm (d := (d + 1)) (a := 321) (b := 323) (t := 323) c_3 (by decide) (by decide) (by decide)) r_3 cl_X15 rfl kx_2285 kx_1922 kx_1923 kx_33 kx_1924 (by decide +kernel) rfl (by decide) (Nat.le_of_ble_eq_true rfl) rfl dX16_plus_100 rfl (fun z_4 T_4 y_4 => ?_)
      obtain ⟨rfl, u_4, y_4⟩ := y_4
      obtain ⟨v_4, e_4⟩ : ∃ v, v = mM (R 321) v_3 := ⟨_, rfl⟩
      have c_4 : cvR T_4 (va_up (va_up (va_up (va_up R 323 v_1) 324 v_2) 323 v_3) 323 v_4) := by rw [e_4]; exact y_4
      have o_4 := u_4.at o_3 (by decide)
      clear y_4
      have p319_4 : T_4.2.2 319 = some (.inr (17, [.ref 320, .ref 321, .ref 322])) := c_4.2.2.2.2.2
      have p311_4 : T_4.2.2 311 = some (.inr (17, [.ref 312, .ref 313, .ref 314])) := c_4.2.2.2.1
      have r_4 := c_4.1.1.1
      refine ks_aload_n dX16_plus_103 rfl rfl ?_
      refine ks_getf (T := TX16) (kf := 15) kx_2383 rfl in_X16 cl_X16 (by decide) o_4 rfl dX16_plus_104 rfl ?_
      refine ks_aload_n dX16_plus_107 rfl rfl ?_
      refine ks_getN (T := TX14) (kf := 2) kx_1797 rfl in_X14 cl_X14 (by decide) p319_4 rfl dX16_plus_108 rfl ?_
      refine ks_aload_n dX16_plus_111 rfl rfl ?_
      refine ks_getN (T := TX14) (kf := 2) kx_1797 rfl in_X14 cl_X14 (by decide) p319_4 rfl dX16_plus_112 rfl ?_
      refine ks_aload_n dX16_plus_115 rfl rfl ?_
      refine ks_getf (T := TX16) (kf := 24) kx_2392 rfl in_X16 cl_X16 (by decide) o_4 rfl dX16_plus_116 rfl ?_
      refine ks_callV (n := 3) (M' := mX15_multiply) (c_fm (d := (d + 1)) (a := 322) (b := 322) (t := 325) c_4 (by decide) (by decide) (by decide)) r_4 cl_X15 rfl kx_2285 kx_1922 kx_1923 kx_33 kx_1924 (by decide +kernel) rfl (by decide) (Nat.le_of_ble_eq_true rfl) rfl dX16_plus_119 rfl (fun z_5 T_5 y_5 => ?_)
      obtain ⟨rfl, u_5, y_5⟩ := y_5
      obtain ⟨v_5, e_5⟩ : ∃ v, v = mM (R 322) (R 322) := ⟨_, rfl⟩
      have c_5 : cvR T_5 (va_up (va_up (va_up (va_up (va_up R 323 v_1) 324 v_2) 323 v_3) 323 v_4) 325 v_5) := by rw [e_5]; exact y_5
      have o_5 := u_5.at o_4 (by decide)
      clear y_5
      have p319_5 : T_5.2.2 319 = some (.inr (17, [.ref 320, .ref 321, .ref 322])) := c_5.2.2.2.2.2
      have p311_5 : T_5.2.2 311 = some (.inr (17, [.ref 312, .ref 313, .ref 314])) := c_5.2.2.2.1
      have r_5 := c_5.1.1.1
      refine ks_aload_n dX16_plus_122 rfl rfl ?_
      refine ks_getf (T := TX16) (kf := 15) kx_2383 rfl in_X16 cl_X16 (by decide) o_5 rfl dX16_plus_123 rfl ?_
      refine ks_aload_n dX16_plus_126 rfl rfl ?_
      refine ks_getN (T := TX14) (kf := 0) kx_1793 rfl in_X14 cl_X14 (by decide) p311_5 rfl dX16_plus_127 rfl ?_
      refine ks_aload_n dX16_plus_130 rfl rfl ?_
      refine ks_getf (T := TX16) (kf := 24) kx_2392 rfl in_X16 cl_X16 (by decide) o_5 rfl dX16_plus_131 rfl ?_
      refine ks_aload_n dX16_plus_134 rfl rfl ?_
      refine ks_getf (T := TX16) (kf := 25) kx_2393 rfl in_X16 cl_X16 (by decide) o_5 rfl dX16_plus_135 rfl ?_
      refine ks_callV (n := 3) (M' := mX15_multiply) (c_fm (d := (d + 1)) (a := 312) (b := 325) (t := 326) c_5 (by decide) (by decide) (by decide)) r_5 cl_X15 rfl kx_2285 kx_1922 kx_1923 kx_33 kx_1924 (by decide +kernel) rfl (by decide) (Nat.le_of_ble_eq_true rfl) rfl dX16_plus_138 rfl (fun z_6 T_6 y_6 => ?_)
      obtain ⟨rfl, u_6, y_6⟩ := y_6
      obtain ⟨v_6, e_6⟩ : ∃ v, v = mM (R 312) v_5 := ⟨_, rfl⟩
      have c_6 : cvR T_6 (va_up (va_up (va_up (va_up (va_up (va_up R 323 v_1) 324 v_2) 323 v_3) 323 v_4) 325 v_5) 326 v_6) := by rw [e_6]; exact y_6
      have o_6 := u_6.at o_5 (by decide)
      clear y_6
      have p319_6 : T_6.2.2 319 = some (.inr (17, [.ref 320, .ref 321, .ref 322])) := c_6.2.2.2.2.2
      have p311_6 : T_6.2.2 311 = some (.inr (17, [.ref 312, .ref 313, .ref 314])) := c_6.2.2.2.1
      have r_6 := c_6.1.1.1
      refine ks_aload_n dX16_plus_141 rfl rfl ?_
      refine ks_getf (T := TX16) (kf := 15) kx_2383 rfl in_X16 cl_X16 (by decide) o_6 rfl dX16_plus_142 rfl ?_
      refine ks_aload_n dX16_plus_145 rfl rfl ?_
      refine ks_getf (T := TX16) (kf := 24) kx_2392 rfl in_X16 cl_X16 (by decide) o_6 rfl dX16_plus_146 rfl ?_
      refine ks_aload_n dX16_plus_149 rfl rfl ?_
      refine ks_getN (T := TX14) (kf := 2) kx_1797 rfl in_X14 cl_X14 (by decide) p319_6 rfl dX16_plus_150 rfl ?_
      refine ks_aload_n dX16_plus_153 rfl rfl ?_
      refine ks_getf (T := TX16) (kf := 24) kx_2392 rfl in_X16 cl_X16 (by decide) o_6 rfl dX16_plus_154 rfl ?_
      refine ks_callV (n := 3) (M' := mX15_multiply) (c_fm (d := (d + 1)) (a := 325) (b := 322) (t := 325) c_6 (by decide) (by decide) (by decide)) r_6 cl_X15 rfl kx_2285 kx_1922 kx_1923 kx_33 kx_1924 (by decide +kernel) rfl (by decide) (Nat.le_of_ble_eq_true rfl) rfl dX16_plus_157 rfl (fun z_7 T_7 y_7 => ?_)
      obtain ⟨rfl, u_7, y_7⟩ := y_7
      obtain ⟨v_7, e_7⟩ : ∃ v, v = mM v_5 (R 322) := ⟨_, rfl⟩
      have c_7 : cvR T_7 (va_up (va_up (va_up (va_up (va_up (va_up (va_up R 323 v_1) 324 v_2) 323 v_3) 323 v_4) 325 v_5) 326 v_6) 325 v_7) := by rw [e_7]; exact y_7
      have o_7 := u_7.at o_6 (by decide)
      clear y_7
      have p319_7 : T_7.2.2 319 = some (.inr (17, [.ref 320, .ref 321, .ref 322])) := c_7.2.2.2.2.2
      have p311_7 : T_7.2.2 311 = some (.inr (17, [.ref 312, .ref 313, .ref 314])) := c_7.2.2.2.1
      have r_7 := c_7.1.1.1
      refine ks_aload_n dX16_plus_160 rfl rfl ?_
      refine ks_getf (T := TX16) (kf := 15) kx_2383 rfl in_X16 cl_X16 (by decide) o_7 rfl dX16_plus_161 rfl ?_
      refine ks_aload_n dX16_plus_164 rfl rfl ?_
      refine ks_getN (T := TX14) (kf := 1) kx_1795 rfl in_X14 cl_X14 (by decide) p311_7 rfl dX16_plus_165 rfl ?_
      refine ks_aload_n dX16_plus_168 rfl rfl ?_
      refine ks_getf (T := TX16) (kf := 24) kx_2392 rfl in_X16 cl_X16 (by decide) o_7 rfl dX16_plus_169 rfl ?_
      refine ks_aload_n dX16_plus_172 rfl rfl ?_
      refine ks_getf (T := TX16) (kf := 24) kx_2392 rfl in_X16 cl_X16 (by decide) o_7 rfl dX16_plus_173 rfl ?_
      refine ks_callV (n := 3) (M' := mX15_multiply) (c_fm (d := (d + 1)) (a := 313) (b := 325) (t := 325) c_7 (by decide) (by decide) (by decide)) r_7 cl_X15 rfl kx_2285 kx_1922 kx_1923 kx_33 kx_1924 (by decide +kernel) rfl (by decide) (Nat.le_of_ble_eq_true rfl) rfl dX16_plus_176 rfl (fun z_8 T_8 y_8 => ?_)
      obtain ⟨rfl, u_8, y_8⟩ := y_8
      obtain ⟨v_8, e_8⟩ : ∃ v, v = mM (R 313) v_7 := ⟨_, rfl⟩
      have c_8 : cvR T_8 (va_up (va_up (va_up (va_up (va_up (va_up (va_up (va_up R 323 v_1) 324 v_2) 323 v_3) 323 v_4) 325 v_5) 326 v_6) 325 v_7) 325 v_8) := by rw [e_8]; exact y_8
      have o_8 := u_8.at o_7 (by decide)
      clear y_8
      have p319_8 : T_8.2.2 319 = some (.inr (17, [.ref 320, .ref 321, .ref 322])) := c_8.2.2.2.2.2
      have p311_8 : T_8.2.2 311 = some (.inr (17, [.ref 312, .ref 313, .ref 314])) := c_8.2.2.2.1
      have r_8 := c_8.1.1.1
      refine ks_aload_n dX16_plus_179 rfl rfl ?_
      refine ks_getf (T := TX16) (kf := 15) kx_2383 rfl in_X16 cl_X16 (by decide) o_8 rfl dX16_plus_180 rfl ?_
      refine ks_aload_n dX16_plus_183 rfl rfl ?_
      refine ks_getf (T := TX16) (kf := 25) kx_2393 rfl in_X16 cl_X16 (by decide) o_8 rfl dX16_plus_184 rfl ?_
      refine ks_aload_n dX16_plus_187 rfl rfl ?_
      refine ks_getf (T := TX16) (kf := 23) kx_2391 rfl in_X16 cl_X16 (by decide) o_8 rfl dX16_plus_188 rfl ?_
      refine ks_aload_n dX16_plus_191 rfl rfl ?_
      refine ks_getf (T := TX16) (kf := 25) kx_2393 rfl in_X16 cl_X16 (by decide) o_8 rfl dX16_plus_192 rfl ?_
      refine ks_callV (n := 3) (M' := mX15_subtract) (c_fs (d := (d + 1)) (a := 326) (b := 324) (t := 326) c_8 (by decide) (by decide) (by decide)) r_8 cl_X15 rfl kx_2298 kx_2299 kx_2300 kx_33 kx_2301 (by decide +kernel) rfl (by decide) (Nat.le_of_ble_eq_true rfl) rfl dX16_plus_195 rfl (fun z_9 T_9 y_9 => ?_)
      obtain ⟨rfl, u_9, y_9⟩ := y_9
      obtain ⟨v_9, e_9⟩ : ∃ v, v = sM v_6 v_2 := ⟨_, rfl⟩
      have c_9 : cvR T_9 (va_up (va_up (va_up (va_up (va_up (va_up (va_up (va_up (va_up R 323 v_1) 324 v_2) 323 v_3) 323 v_4) 325 v_5) 326 v_6) 325 v_7) 325 v_8) 326 v_9) := by rw [e_9]; exact y_9
      have o_9 := u_9.at o_8 (by decide)
      clear y_9
      have p319_9 : T_9.2.2 319 = some (.inr (17, [.ref 320, .ref 321, .ref 322])) := c_9.2.2.2.2.2
      have p311_9 : T_9.2.2 311 = some (.inr (17, [.ref 312, .ref 313, .ref 314])) := c_9.2.2.2.1
      have r_9 := c_9.1.1.1
      refine ks_aload_n dX16_plus_198 rfl rfl ?_
      refine ks_getf (T := TX16) (kf := 15) kx_2383 rfl in_X16 cl_X16 (by decide) o_9 rfl dX16_plus_199 rfl ?_
      refine ks_aload_n dX16_plus_202 rfl rfl ?_
      refine ks_getf (T := TX16) (kf := 24) kx_2392 rfl in_X16 cl_X16 (by decide) o_9 rfl dX16_plus_203 rfl ?_
      refine ks_aload_n dX16_plus_206 rfl rfl ?_
      refine ks_getf (T := TX16) (kf := 22) kx_2390 rfl in_X16 cl_X16 (by decide) o_9 rfl dX16_plus_207 rfl ?_
      refine ks_aload_n dX16_plus_210 rfl rfl ?_
      refine ks_getf (T := TX16) (kf := 24) kx_2392 rfl in_X16 cl_X16 (by decide) o_9 rfl dX16_plus_211 rfl ?_
      refine ks_callV (n := 3) (M' := mX15_subtract) (c_fs (d := (d + 1)) (a := 325) (b := 323) (t := 325) c_9 (by decide) (by decide) (by decide)) r_9 cl_X15 rfl kx_2298 kx_2299 kx_2300 kx_33 kx_2301 (by decide +kernel) rfl (by decide) (Nat.le_of_ble_eq_true rfl) rfl dX16_plus_214 rfl (fun z_10 T_10 y_10 => ?_)
      obtain ⟨rfl, u_10, y_10⟩ := y_10
      obtain ⟨v_10, e_10⟩ : ∃ v, v = sM v_8 v_4 := ⟨_, rfl⟩
      have c_10 : cvR T_10 (va_up (va_up (va_up (va_up (va_up (va_up (va_up (va_up (va_up (va_up R 323 v_1) 324 v_2) 323 v_3) 323 v_4) 325 v_5) 326 v_6) 325 v_7) 325 v_8) 326 v_9) 325 v_10) := by rw [e_10]; exact y_10
      have o_10 := u_10.at o_9 (by decide)
      clear y_10
      have p319_10 : T_10.2.2 319 = some (.inr (17, [.ref 320, .ref 321, .ref 322])) := c_10.2.2.2.2.2
      have p311_10 : T_10.2.2 311 = some (.inr (17, [.ref 312, .ref 313, .ref 314])) := c_10.2.2.2.1
      have r_10 := c_10.1.1.1
      
      have eH : v_9 = ptH (ptR R 320) (ptR R 312) := by rw [e_9, e_6, e_5, e_2, e_1]; rfl
      have eV : v_4 = adV (ptR R 320).2.1 (ptR R 312).2.2 := by rw [e_4, e_3, e_1]; exact rd_V _ _
      have eK : v_10 = ptK (ptR R 320) (ptR R 312) := by rw [e_10, e_8, e_7, e_5, eV]; exact rd_K _ _ _ _
      have eU : v_2 = adU (ptR R 320).1 (ptR R 312).2.2 := by rw [e_2, e_1]; rfl
      refine ks_aload_n dX16_plus_217 rfl rfl ?_
      refine ks_getf (T := TX16) (kf := 25) kx_2393 rfl in_X16 cl_X16 (by decide) o_10 rfl dX16_plus_218 rfl ?_
      refine ks_callS (n := 1) (M' := mX15_isZero) (c_fz (d := d + 2) (a := 326) c_10 (by decide)) kx_2306 kx_2307 kx_33 kx_2308 (by decide +kernel) rfl (by decide) (Nat.le_of_ble_eq_true rfl) rfl dX16_plus_221 rfl (fun z6 T6 y6 => ?_)
      obtain ⟨rfl, hT6⟩ := y6
      obtain rfl := hT6.symm
      refine ks_if_eqZ (tgt := 267) dX16_plus_224 (by decide) rfl (fun h6 => ?_) (fun h6 => ?_)
      · have d0 : ¬ ptH (ptR R 320) (ptR R 312) = 0 := eH ▸ (of_decide_eq_false h6 : ¬ v_9 = 0)
        refine ks_aload_n dX16_plus_267 rfl rfl ?_
        refine ks_getf (T := TX16) (kf := 15) kx_2383 rfl in_X16 cl_X16 (by decide) o_10 rfl dX16_plus_268 rfl ?_
        refine ks_aload_n dX16_plus_271 rfl rfl ?_
        refine ks_getN (T := TX14) (kf := 2) kx_1797 rfl in_X14 cl_X14 (by decide) p319_10 rfl dX16_plus_272 rfl ?_
        refine ks_aload_n dX16_plus_275 rfl rfl ?_
        refine ks_getN (T := TX14) (kf := 2) kx_1797 rfl in_X14 cl_X14 (by decide) p311_10 rfl dX16_plus_276 rfl ?_
        refine ks_aload_n dX16_plus_279 rfl rfl ?_
        refine ks_getN (T := TX14) (kf := 2) kx_1797 rfl in_X14 cl_X14 (by decide) p319_10 rfl dX16_plus_280 rfl ?_
        refine ks_callV (n := 3) (M' := mX15_multiply) (c_fm (d := (d + 1)) (a := 322) (b := 314) (t := 322) c_10 (by decide) (by decide) (by decide)) r_10 cl_X15 rfl kx_2285 kx_1922 kx_1923 kx_33 kx_1924 (by decide +kernel) rfl (by decide) (Nat.le_of_ble_eq_true rfl) rfl dX16_plus_283 rfl (fun z_11 T_11 y_11 => ?_)
        obtain ⟨rfl, u_11, y_11⟩ := y_11
        obtain ⟨v_11, e_11⟩ : ∃ v, v = mM (R 322) (R 314) := ⟨_, rfl⟩
        have c_11 : cvR T_11 (va_up (va_up (va_up (va_up (va_up (va_up (va_up (va_up (va_up (va_up (va_up R 323 v_1) 324 v_2) 323 v_3) 323 v_4) 325 v_5) 326 v_6) 325 v_7) 325 v_8) 326 v_9) 325 v_10) 322 v_11) := by rw [e_11]; exact y_11
        have o_11 := u_11.at o_10 (by decide)
        clear y_11
        have p319_11 : T_11.2.2 319 = some (.inr (17, [.ref 320, .ref 321, .ref 322])) := c_11.2.2.2.2.2
        have p311_11 : T_11.2.2 311 = some (.inr (17, [.ref 312, .ref 313, .ref 314])) := c_11.2.2.2.1
        have r_11 := c_11.1.1.1
        refine ks_aload_n dX16_plus_286 rfl rfl ?_
        refine ks_getf (T := TX16) (kf := 15) kx_2383 rfl in_X16 cl_X16 (by decide) o_11 rfl dX16_plus_287 rfl ?_
        refine ks_aload_n dX16_plus_290 rfl rfl ?_
        refine ks_getN (T := TX14) (kf := 2) kx_1797 rfl in_X14 cl_X14 (by decide) p319_11 rfl dX16_plus_291 rfl ?_
        refine ks_aload_n dX16_plus_294 rfl rfl ?_
        refine ks_getf (T := TX16) (kf := 25) kx_2393 rfl in_X16 cl_X16 (by decide) o_11 rfl dX16_plus_295 rfl ?_
        refine ks_aload_n dX16_plus_298 rfl rfl ?_
        refine ks_getN (T := TX14) (kf := 2) kx_1797 rfl in_X14 cl_X14 (by decide) p319_11 rfl dX16_plus_299 rfl ?_
        refine ks_callV (n := 3) (M' := mX15_multiply) (c_fm (d := (d + 1)) (a := 322) (b := 326) (t := 322) c_11 (by decide) (by decide) (by decide)) r_11 cl_X15 rfl kx_2285 kx_1922 kx_1923 kx_33 kx_1924 (by decide +kernel) rfl (by decide) (Nat.le_of_ble_eq_true rfl) rfl dX16_plus_302 rfl (fun z_12 T_12 y_12 => ?_)
        obtain ⟨rfl, u_12, y_12⟩ := y_12
        obtain ⟨v_12, e_12⟩ : ∃ v, v = mM v_11 v_9 := ⟨_, rfl⟩
        have c_12 : cvR T_12 (va_up (va_up (va_up (va_up (va_up (va_up (va_up (va_up (va_up (va_up (va_up (va_up R 323 v_1) 324 v_2) 323 v_3) 323 v_4) 325 v_5) 326 v_6) 325 v_7) 325 v_8) 326 v_9) 325 v_10) 322 v_11) 322 v_12) := by rw [e_12]; exact y_12
        have o_12 := u_12.at o_11 (by decide)
        clear y_12
        have p319_12 : T_12.2.2 319 = some (.inr (17, [.ref 320, .ref 321, .ref 322])) := c_12.2.2.2.2.2
        have p311_12 : T_12.2.2 311 = some (.inr (17, [.ref 312, .ref 313, .ref 314])) := c_12.2.2.2.1
        have r_12 := c_12.1.1.1
        refine ks_aload_n dX16_plus_305 rfl rfl ?_
        refine ks_getf (T := TX16) (kf := 15) kx_2383 rfl in_X16 cl_X16 (by decide) o_12 rfl dX16_plus_306 rfl ?_
        refine ks_aload_n dX16_plus_309 rfl rfl ?_
        refine ks_getf (T := TX16) (kf := 25) kx_2393 rfl in_X16 cl_X16 (by decide) o_12 rfl dX16_plus_310 rfl ?_
        refine ks_aload_n dX16_plus_313 rfl rfl ?_
        refine ks_getf (T := TX16) (kf := 25) kx_2393 rfl in_X16 cl_X16 (by decide) o_12 rfl dX16_plus_314 rfl ?_
        refine ks_aload_n dX16_plus_317 rfl rfl ?_
        refine ks_getf (T := TX16) (kf := 26) kx_2394 rfl in_X16 cl_X16 (by decide) o_12 rfl dX16_plus_318 rfl ?_
        refine ks_callV (n := 3) (M' := mX15_multiply) (c_fm (d := (d + 1)) (a := 326) (b := 326) (t := 327) c_12 (by decide) (by decide) (by decide)) r_12 cl_X15 rfl kx_2285 kx_1922 kx_1923 kx_33 kx_1924 (by decide +kernel) rfl (by decide) (Nat.le_of_ble_eq_true rfl) rfl dX16_plus_321 rfl (fun z_13 T_13 y_13 => ?_)
        obtain ⟨rfl, u_13, y_13⟩ := y_13
        obtain ⟨v_13, e_13⟩ : ∃ v, v = mM v_9 v_9 := ⟨_, rfl⟩
        have c_13 : cvR T_13 (va_up (va_up (va_up (va_up (va_up (va_up (va_up (va_up (va_up (va_up (va_up (va_up (va_up R 323 v_1) 324 v_2) 323 v_3) 323 v_4) 325 v_5) 326 v_6) 325 v_7) 325 v_8) 326 v_9) 325 v_10) 322 v_11) 322 v_12) 327 v_13) := by rw [e_13]; exact y_13
        have o_13 := u_13.at o_12 (by decide)
        clear y_13
        have p319_13 : T_13.2.2 319 = some (.inr (17, [.ref 320, .ref 321, .ref 322])) := c_13.2.2.2.2.2
        have p311_13 : T_13.2.2 311 = some (.inr (17, [.ref 312, .ref 313, .ref 314])) := c_13.2.2.2.1
        have r_13 := c_13.1.1.1
        refine ks_aload_n dX16_plus_324 rfl rfl ?_
        refine ks_getf (T := TX16) (kf := 15) kx_2383 rfl in_X16 cl_X16 (by decide) o_13 rfl dX16_plus_325 rfl ?_
        refine ks_aload_n dX16_plus_328 rfl rfl ?_
        refine ks_getf (T := TX16) (kf := 23) kx_2391 rfl in_X16 cl_X16 (by decide) o_13 rfl dX16_plus_329 rfl ?_
        refine ks_aload_n dX16_plus_332 rfl rfl ?_
        refine ks_getf (T := TX16) (kf := 26) kx_2394 rfl in_X16 cl_X16 (by decide) o_13 rfl dX16_plus_333 rfl ?_
        refine ks_aload_n dX16_plus_336 rfl rfl ?_
        refine ks_getf (T := TX16) (kf := 23) kx_2391 rfl in_X16 cl_X16 (by decide) o_13 rfl dX16_plus_337 rfl ?_
        refine ks_callV (n := 3) (M' := mX15_multiply) (c_fm (d := (d + 1)) (a := 324) (b := 327) (t := 324) c_13 (by decide) (by decide) (by decide)) r_13 cl_X15 rfl kx_2285 kx_1922 kx_1923 kx_33 kx_1924 (by decide +kernel) rfl (by decide) (Nat.le_of_ble_eq_true rfl) rfl dX16_plus_340 rfl (fun z_14 T_14 y_14 => ?_)
        obtain ⟨rfl, u_14, y_14⟩ := y_14
        obtain ⟨v_14, e_14⟩ : ∃ v, v = mM v_2 v_13 := ⟨_, rfl⟩
        have c_14 : cvR T_14 (va_up (va_up (va_up (va_up (va_up (va_up (va_up (va_up (va_up (va_up (va_up (va_up (va_up (va_up R 323 v_1) 324 v_2) 323 v_3) 323 v_4) 325 v_5) 326 v_6) 325 v_7) 325 v_8) 326 v_9) 325 v_10) 322 v_11) 322 v_12) 327 v_13) 324 v_14) := by rw [e_14]; exact y_14
        have o_14 := u_14.at o_13 (by decide)
        clear y_14
        have p319_14 : T_14.2.2 319 = some (.inr (17, [.ref 320, .ref 321, .ref 322])) := c_14.2.2.2.2.2
        have p311_14 : T_14.2.2 311 = some (.inr (17, [.ref 312, .ref 313, .ref 314])) := c_14.2.2.2.1
        have r_14 := c_14.1.1.1
        refine ks_aload_n dX16_plus_343 rfl rfl ?_
        refine ks_getf (T := TX16) (kf := 15) kx_2383 rfl in_X16 cl_X16 (by decide) o_14 rfl dX16_plus_344 rfl ?_
        refine ks_aload_n dX16_plus_347 rfl rfl ?_
        refine ks_getf (T := TX16) (kf := 26) kx_2394 rfl in_X16 cl_X16 (by decide) o_14 rfl dX16_plus_348 rfl ?_
        refine ks_aload_n dX16_plus_351 rfl rfl ?_
        refine ks_getf (T := TX16) (kf := 25) kx_2393 rfl in_X16 cl_X16 (by decide) o_14 rfl dX16_plus_352 rfl ?_
        refine ks_aload_n dX16_plus_355 rfl rfl ?_
        refine ks_getf (T := TX16) (kf := 26) kx_2394 rfl in_X16 cl_X16 (by decide) o_14 rfl dX16_plus_356 rfl ?_
        refine ks_callV (n := 3) (M' := mX15_multiply) (c_fm (d := (d + 1)) (a := 327) (b := 326) (t := 327) c_14 (by decide) (by decide) (by decide)) r_14 cl_X15 rfl kx_2285 kx_1922 kx_1923 kx_33 kx_1924 (by decide +kernel) rfl (by decide) (Nat.le_of_ble_eq_true rfl) rfl dX16_plus_359 rfl (fun z_15 T_15 y_15 => ?_)
        obtain ⟨rfl, u_15, y_15⟩ := y_15
        obtain ⟨v_15, e_15⟩ : ∃ v, v = mM v_13 v_9 := ⟨_, rfl⟩
        have c_15 : cvR T_15 (va_up (va_up (va_up (va_up (va_up (va_up (va_up (va_up (va_up (va_up (va_up (va_up (va_up (va_up (va_up R 323 v_1) 324 v_2) 323 v_3) 323 v_4) 325 v_5) 326 v_6) 325 v_7) 325 v_8) 326 v_9) 325 v_10) 322 v_11) 322 v_12) 327 v_13) 324 v_14) 327 v_15) := by rw [e_15]; exact y_15
        have o_15 := u_15.at o_14 (by decide)
        clear y_15
        have p319_15 : T_15.2.2 319 = some (.inr (17, [.ref 320, .ref 321, .ref 322])) := c_15.2.2.2.2.2
        have p311_15 : T_15.2.2 311 = some (.inr (17, [.ref 312, .ref 313, .ref 314])) := c_15.2.2.2.1
        have r_15 := c_15.1.1.1
        refine ks_aload_n dX16_plus_362 rfl rfl ?_
        refine ks_getf (T := TX16) (kf := 15) kx_2383 rfl in_X16 cl_X16 (by decide) o_15 rfl dX16_plus_363 rfl ?_
        refine ks_aload_n dX16_plus_366 rfl rfl ?_
        refine ks_getf (T := TX16) (kf := 24) kx_2392 rfl in_X16 cl_X16 (by decide) o_15 rfl dX16_plus_367 rfl ?_
        refine ks_aload_n dX16_plus_370 rfl rfl ?_
        refine ks_getf (T := TX16) (kf := 24) kx_2392 rfl in_X16 cl_X16 (by decide) o_15 rfl dX16_plus_371 rfl ?_
        refine ks_aload_n dX16_plus_374 rfl rfl ?_
        refine ks_getN (T := TX14) (kf := 0) kx_1793 rfl in_X14 cl_X14 (by decide) p319_15 rfl dX16_plus_375 rfl ?_
        refine ks_callV (n := 3) (M' := mX15_multiply) (c_fm (d := (d + 1)) (a := 325) (b := 325) (t := 320) c_15 (by decide) (by decide) (by decide)) r_15 cl_X15 rfl kx_2285 kx_1922 kx_1923 kx_33 kx_1924 (by decide +kernel) rfl (by decide) (Nat.le_of_ble_eq_true rfl) rfl dX16_plus_378 rfl (fun z_16 T_16 y_16 => ?_)
        obtain ⟨rfl, u_16, y_16⟩ := y_16
        obtain ⟨v_16, e_16⟩ : ∃ v, v = mM v_10 v_10 := ⟨_, rfl⟩
        have c_16 : cvR T_16 (va_up (va_up (va_up (va_up (va_up (va_up (va_up (va_up (va_up (va_up (va_up (va_up (va_up (va_up (va_up (va_up R 323 v_1) 324 v_2) 323 v_3) 323 v_4) 325 v_5) 326 v_6) 325 v_7) 325 v_8) 326 v_9) 325 v_10) 322 v_11) 322 v_12) 327 v_13) 324 v_14) 327 v_15) 320 v_16) := by rw [e_16]; exact y_16
        have o_16 := u_16.at o_15 (by decide)
        clear y_16
        have p319_16 : T_16.2.2 319 = some (.inr (17, [.ref 320, .ref 321, .ref 322])) := c_16.2.2.2.2.2
        have p311_16 : T_16.2.2 311 = some (.inr (17, [.ref 312, .ref 313, .ref 314])) := c_16.2.2.2.1
        have r_16 := c_16.1.1.1
        refine ks_aload_n dX16_plus_381 rfl rfl ?_
        refine ks_getf (T := TX16) (kf := 15) kx_2383 rfl in_X16 cl_X16 (by decide) o_16 rfl dX16_plus_382 rfl ?_
        refine ks_aload_n dX16_plus_385 rfl rfl ?_
        refine ks_getN (T := TX14) (kf := 0) kx_1793 rfl in_X14 cl_X14 (by decide) p319_16 rfl dX16_plus_386 rfl ?_
        refine ks_aload_n dX16_plus_389 rfl rfl ?_
        refine ks_getf (T := TX16) (kf := 26) kx_2394 rfl in_X16 cl_X16 (by decide) o_16 rfl dX16_plus_390 rfl ?_
        refine ks_aload_n dX16_plus_393 rfl rfl ?_
        refine ks_getN (T := TX14) (kf := 0) kx_1793 rfl in_X14 cl_X14 (by decide) p319_16 rfl dX16_plus_394 rfl ?_
        refine ks_callV (n := 3) (M' := mX15_subtract) (c_fs (d := (d + 1)) (a := 320) (b := 327) (t := 320) c_16 (by decide) (by decide) (by decide)) r_16 cl_X15 rfl kx_2298 kx_2299 kx_2300 kx_33 kx_2301 (by decide +kernel) rfl (by decide) (Nat.le_of_ble_eq_true rfl) rfl dX16_plus_397 rfl (fun z_17 T_17 y_17 => ?_)
        obtain ⟨rfl, u_17, y_17⟩ := y_17
        obtain ⟨v_17, e_17⟩ : ∃ v, v = sM v_16 v_15 := ⟨_, rfl⟩
        have c_17 : cvR T_17 (va_up (va_up (va_up (va_up (va_up (va_up (va_up (va_up (va_up (va_up (va_up (va_up (va_up (va_up (va_up (va_up (va_up R 323 v_1) 324 v_2) 323 v_3) 323 v_4) 325 v_5) 326 v_6) 325 v_7) 325 v_8) 326 v_9) 325 v_10) 322 v_11) 322 v_12) 327 v_13) 324 v_14) 327 v_15) 320 v_16) 320 v_17) := by rw [e_17]; exact y_17
        have o_17 := u_17.at o_16 (by decide)
        clear y_17
        have p319_17 : T_17.2.2 319 = some (.inr (17, [.ref 320, .ref 321, .ref 322])) := c_17.2.2.2.2.2
        have p311_17 : T_17.2.2 311 = some (.inr (17, [.ref 312, .ref 313, .ref 314])) := c_17.2.2.2.1
        have r_17 := c_17.1.1.1
        refine ks_aload_n dX16_plus_400 rfl rfl ?_
        refine ks_getf (T := TX16) (kf := 15) kx_2383 rfl in_X16 cl_X16 (by decide) o_17 rfl dX16_plus_401 rfl ?_
        refine ks_aload_n dX16_plus_404 rfl rfl ?_
        refine ks_getN (T := TX14) (kf := 0) kx_1793 rfl in_X14 cl_X14 (by decide) p319_17 rfl dX16_plus_405 rfl ?_
        refine ks_aload_n dX16_plus_408 rfl rfl ?_
        refine ks_getf (T := TX16) (kf := 23) kx_2391 rfl in_X16 cl_X16 (by decide) o_17 rfl dX16_plus_409 rfl ?_
        refine ks_aload_n dX16_plus_412 rfl rfl ?_
        refine ks_getN (T := TX14) (kf := 0) kx_1793 rfl in_X14 cl_X14 (by decide) p319_17 rfl dX16_plus_413 rfl ?_
        refine ks_callV (n := 3) (M' := mX15_subtract) (c_fs (d := (d + 1)) (a := 320) (b := 324) (t := 320) c_17 (by decide) (by decide) (by decide)) r_17 cl_X15 rfl kx_2298 kx_2299 kx_2300 kx_33 kx_2301 (by decide +kernel) rfl (by decide) (Nat.le_of_ble_eq_true rfl) rfl dX16_plus_416 rfl (fun z_18 T_18 y_18 => ?_)
        obtain ⟨rfl, u_18, y_18⟩ := y_18
        obtain ⟨v_18, e_18⟩ : ∃ v, v = sM v_17 v_14 := ⟨_, rfl⟩
        have c_18 : cvR T_18 (va_up (va_up (va_up (va_up (va_up (va_up (va_up (va_up (va_up (va_up (va_up (va_up (va_up (va_up (va_up (va_up (va_up (va_up R 323 v_1) 324 v_2) 323 v_3) 323 v_4) 325 v_5) 326 v_6) 325 v_7) 325 v_8) 326 v_9) 325 v_10) 322 v_11) 322 v_12) 327 v_13) 324 v_14) 327 v_15) 320 v_16) 320 v_17) 320 v_18) := by rw [e_18]; exact y_18
        have o_18 := u_18.at o_17 (by decide)
        clear y_18
        have p319_18 : T_18.2.2 319 = some (.inr (17, [.ref 320, .ref 321, .ref 322])) := c_18.2.2.2.2.2
        have p311_18 : T_18.2.2 311 = some (.inr (17, [.ref 312, .ref 313, .ref 314])) := c_18.2.2.2.1
        have r_18 := c_18.1.1.1
        refine ks_aload_n dX16_plus_419 rfl rfl ?_
        refine ks_getf (T := TX16) (kf := 15) kx_2383 rfl in_X16 cl_X16 (by decide) o_18 rfl dX16_plus_420 rfl ?_
        refine ks_aload_n dX16_plus_423 rfl rfl ?_
        refine ks_getN (T := TX14) (kf := 0) kx_1793 rfl in_X14 cl_X14 (by decide) p319_18 rfl dX16_plus_424 rfl ?_
        refine ks_aload_n dX16_plus_427 rfl rfl ?_
        refine ks_getf (T := TX16) (kf := 23) kx_2391 rfl in_X16 cl_X16 (by decide) o_18 rfl dX16_plus_428 rfl ?_
        refine ks_aload_n dX16_plus_431 rfl rfl ?_
        refine ks_getN (T := TX14) (kf := 0) kx_1793 rfl in_X14 cl_X14 (by decide) p319_18 rfl dX16_plus_432 rfl ?_
        refine ks_callV (n := 3) (M' := mX15_subtract) (c_fs (d := (d + 1)) (a := 320) (b := 324) (t := 320) c_18 (by decide) (by decide) (by decide)) r_18 cl_X15 rfl kx_2298 kx_2299 kx_2300 kx_33 kx_2301 (by decide +kernel) rfl (by decide) (Nat.le_of_ble_eq_true rfl) rfl dX16_plus_435 rfl (fun z_19 T_19 y_19 => ?_)
        obtain ⟨rfl, u_19, y_19⟩ := y_19
        obtain ⟨v_19, e_19⟩ : ∃ v, v = sM v_18 v_14 := ⟨_, rfl⟩
        have c_19 : cvR T_19 (va_up (va_up (va_up (va_up (va_up (va_up (va_up (va_up (va_up (va_up (va_up (va_up (va_up (va_up (va_up (va_up (va_up (va_up (va_up R 323 v_1) 324 v_2) 323 v_3) 323 v_4) 325 v_5) 326 v_6) 325 v_7) 325 v_8) 326 v_9) 325 v_10) 322 v_11) 322 v_12) 327 v_13) 324 v_14) 327 v_15) 320 v_16) 320 v_17) 320 v_18) 320 v_19) := by rw [e_19]; exact y_19
        have o_19 := u_19.at o_18 (by decide)
        clear y_19
        have p319_19 : T_19.2.2 319 = some (.inr (17, [.ref 320, .ref 321, .ref 322])) := c_19.2.2.2.2.2
        have p311_19 : T_19.2.2 311 = some (.inr (17, [.ref 312, .ref 313, .ref 314])) := c_19.2.2.2.1
        have r_19 := c_19.1.1.1
        refine ks_aload_n dX16_plus_438 rfl rfl ?_
        refine ks_getf (T := TX16) (kf := 15) kx_2383 rfl in_X16 cl_X16 (by decide) o_19 rfl dX16_plus_439 rfl ?_
        refine ks_aload_n dX16_plus_442 rfl rfl ?_
        refine ks_getf (T := TX16) (kf := 23) kx_2391 rfl in_X16 cl_X16 (by decide) o_19 rfl dX16_plus_443 rfl ?_
        refine ks_aload_n dX16_plus_446 rfl rfl ?_
        refine ks_getN (T := TX14) (kf := 0) kx_1793 rfl in_X14 cl_X14 (by decide) p319_19 rfl dX16_plus_447 rfl ?_
        refine ks_aload_n dX16_plus_450 rfl rfl ?_
        refine ks_getf (T := TX16) (kf := 23) kx_2391 rfl in_X16 cl_X16 (by decide) o_19 rfl dX16_plus_451 rfl ?_
        refine ks_callV (n := 3) (M' := mX15_subtract) (c_fs (d := (d + 1)) (a := 324) (b := 320) (t := 324) c_19 (by decide) (by decide) (by decide)) r_19 cl_X15 rfl kx_2298 kx_2299 kx_2300 kx_33 kx_2301 (by decide +kernel) rfl (by decide) (Nat.le_of_ble_eq_true rfl) rfl dX16_plus_454 rfl (fun z_20 T_20 y_20 => ?_)
        obtain ⟨rfl, u_20, y_20⟩ := y_20
        obtain ⟨v_20, e_20⟩ : ∃ v, v = sM v_14 v_19 := ⟨_, rfl⟩
        have c_20 : cvR T_20 (va_up (va_up (va_up (va_up (va_up (va_up (va_up (va_up (va_up (va_up (va_up (va_up (va_up (va_up (va_up (va_up (va_up (va_up (va_up (va_up R 323 v_1) 324 v_2) 323 v_3) 323 v_4) 325 v_5) 326 v_6) 325 v_7) 325 v_8) 326 v_9) 325 v_10) 322 v_11) 322 v_12) 327 v_13) 324 v_14) 327 v_15) 320 v_16) 320 v_17) 320 v_18) 320 v_19) 324 v_20) := by rw [e_20]; exact y_20
        have o_20 := u_20.at o_19 (by decide)
        clear y_20
        have p319_20 : T_20.2.2 319 = some (.inr (17, [.ref 320, .ref 321, .ref 322])) := c_20.2.2.2.2.2
        have p311_20 : T_20.2.2 311 = some (.inr (17, [.ref 312, .ref 313, .ref 314])) := c_20.2.2.2.1
        have r_20 := c_20.1.1.1
        refine ks_aload_n dX16_plus_457 rfl rfl ?_
        refine ks_getf (T := TX16) (kf := 15) kx_2383 rfl in_X16 cl_X16 (by decide) o_20 rfl dX16_plus_458 rfl ?_
        refine ks_aload_n dX16_plus_461 rfl rfl ?_
        refine ks_getf (T := TX16) (kf := 24) kx_2392 rfl in_X16 cl_X16 (by decide) o_20 rfl dX16_plus_462 rfl ?_
        refine ks_aload_n dX16_plus_465 rfl rfl ?_
        refine ks_getf (T := TX16) (kf := 23) kx_2391 rfl in_X16 cl_X16 (by decide) o_20 rfl dX16_plus_466 rfl ?_
        refine ks_aload_n dX16_plus_469 rfl rfl ?_
        refine ks_getN (T := TX14) (kf := 1) kx_1795 rfl in_X14 cl_X14 (by decide) p319_20 rfl dX16_plus_470 rfl ?_
        refine ks_callV (n := 3) (M' := mX15_multiply) (c_fm (d := (d + 1)) (a := 325) (b := 324) (t := 321) c_20 (by decide) (by decide) (by decide)) r_20 cl_X15 rfl kx_2285 kx_1922 kx_1923 kx_33 kx_1924 (by decide +kernel) rfl (by decide) (Nat.le_of_ble_eq_true rfl) rfl dX16_plus_473 rfl (fun z_21 T_21 y_21 => ?_)
        obtain ⟨rfl, u_21, y_21⟩ := y_21
        obtain ⟨v_21, e_21⟩ : ∃ v, v = mM v_10 v_20 := ⟨_, rfl⟩
        have c_21 : cvR T_21 (va_up (va_up (va_up (va_up (va_up (va_up (va_up (va_up (va_up (va_up (va_up (va_up (va_up (va_up (va_up (va_up (va_up (va_up (va_up (va_up (va_up R 323 v_1) 324 v_2) 323 v_3) 323 v_4) 325 v_5) 326 v_6) 325 v_7) 325 v_8) 326 v_9) 325 v_10) 322 v_11) 322 v_12) 327 v_13) 324 v_14) 327 v_15) 320 v_16) 320 v_17) 320 v_18) 320 v_19) 324 v_20) 321 v_21) := by rw [e_21]; exact y_21
        have o_21 := u_21.at o_20 (by decide)
        clear y_21
        have p319_21 : T_21.2.2 319 = some (.inr (17, [.ref 320, .ref 321, .ref 322])) := c_21.2.2.2.2.2
        have p311_21 : T_21.2.2 311 = some (.inr (17, [.ref 312, .ref 313, .ref 314])) := c_21.2.2.2.1
        have r_21 := c_21.1.1.1
        refine ks_aload_n dX16_plus_476 rfl rfl ?_
        refine ks_getf (T := TX16) (kf := 15) kx_2383 rfl in_X16 cl_X16 (by decide) o_21 rfl dX16_plus_477 rfl ?_
        refine ks_aload_n dX16_plus_480 rfl rfl ?_
        refine ks_getf (T := TX16) (kf := 22) kx_2390 rfl in_X16 cl_X16 (by decide) o_21 rfl dX16_plus_481 rfl ?_
        refine ks_aload_n dX16_plus_484 rfl rfl ?_
        refine ks_getf (T := TX16) (kf := 26) kx_2394 rfl in_X16 cl_X16 (by decide) o_21 rfl dX16_plus_485 rfl ?_
        refine ks_aload_n dX16_plus_488 rfl rfl ?_
        refine ks_getf (T := TX16) (kf := 22) kx_2390 rfl in_X16 cl_X16 (by decide) o_21 rfl dX16_plus_489 rfl ?_
        refine ks_callV (n := 3) (M' := mX15_multiply) (c_fm (d := (d + 1)) (a := 323) (b := 327) (t := 323) c_21 (by decide) (by decide) (by decide)) r_21 cl_X15 rfl kx_2285 kx_1922 kx_1923 kx_33 kx_1924 (by decide +kernel) rfl (by decide) (Nat.le_of_ble_eq_true rfl) rfl dX16_plus_492 rfl (fun z_22 T_22 y_22 => ?_)
        obtain ⟨rfl, u_22, y_22⟩ := y_22
        obtain ⟨v_22, e_22⟩ : ∃ v, v = mM v_4 v_15 := ⟨_, rfl⟩
        have c_22 : cvR T_22 (va_up (va_up (va_up (va_up (va_up (va_up (va_up (va_up (va_up (va_up (va_up (va_up (va_up (va_up (va_up (va_up (va_up (va_up (va_up (va_up (va_up (va_up R 323 v_1) 324 v_2) 323 v_3) 323 v_4) 325 v_5) 326 v_6) 325 v_7) 325 v_8) 326 v_9) 325 v_10) 322 v_11) 322 v_12) 327 v_13) 324 v_14) 327 v_15) 320 v_16) 320 v_17) 320 v_18) 320 v_19) 324 v_20) 321 v_21) 323 v_22) := by rw [e_22]; exact y_22
        have o_22 := u_22.at o_21 (by decide)
        clear y_22
        have p319_22 : T_22.2.2 319 = some (.inr (17, [.ref 320, .ref 321, .ref 322])) := c_22.2.2.2.2.2
        have p311_22 : T_22.2.2 311 = some (.inr (17, [.ref 312, .ref 313, .ref 314])) := c_22.2.2.2.1
        have r_22 := c_22.1.1.1
        refine ks_aload_n dX16_plus_495 rfl rfl ?_
        refine ks_getf (T := TX16) (kf := 15) kx_2383 rfl in_X16 cl_X16 (by decide) o_22 rfl dX16_plus_496 rfl ?_
        refine ks_aload_n dX16_plus_499 rfl rfl ?_
        refine ks_getN (T := TX14) (kf := 1) kx_1795 rfl in_X14 cl_X14 (by decide) p319_22 rfl dX16_plus_500 rfl ?_
        refine ks_aload_n dX16_plus_503 rfl rfl ?_
        refine ks_getf (T := TX16) (kf := 22) kx_2390 rfl in_X16 cl_X16 (by decide) o_22 rfl dX16_plus_504 rfl ?_
        refine ks_aload_n dX16_plus_507 rfl rfl ?_
        refine ks_getN (T := TX14) (kf := 1) kx_1795 rfl in_X14 cl_X14 (by decide) p319_22 rfl dX16_plus_508 rfl ?_
        refine ks_callV (n := 3) (M' := mX15_subtract) (c_fs (d := (d + 1)) (a := 321) (b := 323) (t := 321) c_22 (by decide) (by decide) (by decide)) r_22 cl_X15 rfl kx_2298 kx_2299 kx_2300 kx_33 kx_2301 (by decide +kernel) rfl (by decide) (Nat.le_of_ble_eq_true rfl) rfl dX16_plus_511 rfl (fun z_23 T_23 y_23 => ?_)
        obtain ⟨rfl, u_23, y_23⟩ := y_23
        obtain ⟨v_23, e_23⟩ : ∃ v, v = sM v_21 v_22 := ⟨_, rfl⟩
        have c_23 : cvR T_23 (va_up (va_up (va_up (va_up (va_up (va_up (va_up (va_up (va_up (va_up (va_up (va_up (va_up (va_up (va_up (va_up (va_up (va_up (va_up (va_up (va_up (va_up (va_up R 323 v_1) 324 v_2) 323 v_3) 323 v_4) 325 v_5) 326 v_6) 325 v_7) 325 v_8) 326 v_9) 325 v_10) 322 v_11) 322 v_12) 327 v_13) 324 v_14) 327 v_15) 320 v_16) 320 v_17) 320 v_18) 320 v_19) 324 v_20) 321 v_21) 323 v_22) 321 v_23) := by rw [e_23]; exact y_23
        have o_23 := u_23.at o_22 (by decide)
        clear y_23
        have p319_23 : T_23.2.2 319 = some (.inr (17, [.ref 320, .ref 321, .ref 322])) := c_23.2.2.2.2.2
        have p311_23 : T_23.2.2 311 = some (.inr (17, [.ref 312, .ref 313, .ref 314])) := c_23.2.2.2.1
        have r_23 := c_23.1.1.1
        refine ks_ret rfl dX16_plus_514 ?_
        refine ⟨rfl, (((((((((((((((((((((((ks_up.rf _ _).trans (u_1.mono (by decide))).trans (u_2.mono (by decide))).trans (u_3.mono (by decide))).trans (u_4.mono (by decide))).trans (u_5.mono (by decide))).trans (u_6.mono (by decide))).trans (u_7.mono (by decide))).trans (u_8.mono (by decide))).trans (u_9.mono (by decide))).trans (u_10.mono (by decide))).trans (u_11.mono (by decide))).trans (u_12.mono (by decide))).trans (u_13.mono (by decide))).trans (u_14.mono (by decide))).trans (u_15.mono (by decide))).trans (u_16.mono (by decide))).trans (u_17.mono (by decide))).trans (u_18.mono (by decide))).trans (u_19.mono (by decide))).trans (u_20.mono (by decide))).trans (u_21.mono (by decide))).trans (u_22.mono (by decide))).trans (u_23.mono (by decide)), _, c_23, ?_, fun k hk hk2 => ?_⟩
        · show (v_19, v_23, v_12) = _
          unfold rfA
          rw [if_neg q0, if_neg p0, if_neg d0, ← eH, ← eK, ← eU, ← eV]
          clear eH eK eU eV
          refine Prod.ext ?_ (Prod.ext ?_ ?_)
          · show v_19 = adX _ _ _
            unfold adX
            rw [e_19, e_18, e_17, e_16, e_15, e_14, e_13]
          · show v_23 = adY _ _ _ _
            unfold adY adX
            rw [e_23, e_22, e_21, e_20, e_19, e_18, e_17, e_16, e_15, e_14, e_13, mM_comm v_10]
          · show v_12 = adZ _ _ _
            unfold adZ
            rw [e_12, e_11]
            rfl
        · rw [va_up_ne _ _ (by omega), va_up_ne _ _ (by omega), va_up_ne _ _ (by omega), va_up_ne _ _ (by omega), va_up_ne _ _ (by omega), va_up_ne _ _ (by omega), va_up_ne _ _ (by omega), va_up_ne _ _ (by omega), va_up_ne _ _ (by omega), va_up_ne _ _ (by omega), va_up_ne _ _ (by omega), va_up_ne _ _ (by omega), va_up_ne _ _ (by omega), va_up_ne _ _ (by omega), va_up_ne _ _ (by omega), va_up_ne _ _ (by omega), va_up_ne _ _ (by omega), va_up_ne _ _ (by omega), va_up_ne _ _ (by omega), va_up_ne _ _ (by omega), va_up_ne _ _ (by omega), va_up_ne _ _ (by omega), va_up_ne _ _ (by omega)]
      · have d0 : ptH (ptR R 320) (ptR R 312) = 0 := eH ▸ (of_decide_eq_true h6 : v_9 = 0)
        refine ks_aload_n dX16_plus_227 rfl rfl ?_
        refine ks_getf (T := TX16) (kf := 24) kx_2392 rfl in_X16 cl_X16 (by decide) o_10 rfl dX16_plus_228 rfl ?_
        refine ks_callS (n := 1) (M' := mX15_isZero) (c_fz (d := d + 2) (a := 325) c_10 (by decide)) kx_2306 kx_2307 kx_33 kx_2308 (by decide +kernel) rfl (by decide) (Nat.le_of_ble_eq_true rfl) rfl dX16_plus_231 rfl (fun z5 T5 y5 => ?_)
        obtain ⟨rfl, hT5⟩ := y5
        obtain rfl := hT5.symm
        refine ks_if_eqZ (tgt := 245) dX16_plus_234 (by decide) rfl (fun h5 => ?_) (fun h5 => ?_)
        · have k0 : ¬ ptK (ptR R 320) (ptR R 312) = 0 := eK ▸ (of_decide_eq_false h5 : ¬ v_10 = 0)
          obtain ⟨gz, ez, -, -⟩ := (c_10.2.1 322 (by decide)).1
          refine ks_iconst (x := nI 0) dX16_plus_245 (by decide) rfl ?_
          refine ks_istore_n dX16_plus_246 (by decide) rfl ?_
          refine ks_sub [(3, _), (0, _), (1, _), (2, _)] rfl ?_
          refine ks_iload_n dX16_plus_247 rfl rfl ?_
          refine ks_bipush (x := nI 8) dX16_plus_248 (by decide) rfl ?_
          refine ks_icmp_geN (tgt := 266) (by decide) (by decide) dX16_plus_250 (by decide) rfl (fun h => absurd h (by decide)) (fun _ => ?_)
          refine ks_aload_n dX16_plus_253 rfl rfl ?_
          refine ks_getN (T := TX14) (kf := 2) kx_1797 rfl in_X14 cl_X14 (by decide) p319_10 rfl dX16_plus_254 rfl ?_
          refine ks_iload_n dX16_plus_257 rfl rfl ?_
          refine ks_iconst (x := nI 0) dX16_plus_258 (by decide) rfl ?_
          refine ks_iastNN (i := 0) (v := 0) (by decide) ez (by decide) (by decide) dX16_plus_259 rfl ?_
          refine ks_incN (c := 1) (e := 1) dX16_plus_260 rfl (by decide) rfl (by decide) rfl ?_
          refine ks_sub [(3, _), (0, _), (1, _), (2, _)] rfl ?_
          refine ks_goto (tgt := 247) dX16_plus_263 (by decide) ?_
          refine ks_iload_n dX16_plus_247 rfl rfl ?_
          refine ks_bipush (x := nI 8) dX16_plus_248 (by decide) rfl ?_
          refine ks_icmp_geN (tgt := 266) (by decide) (by decide) dX16_plus_250 (by decide) rfl (fun h => absurd h (by decide)) (fun _ => ?_)
          refine ks_aload_n dX16_plus_253 rfl rfl ?_
          refine ks_getN (T := TX14) (kf := 2) kx_1797 rfl in_X14 cl_X14 (by decide) ((ks_set_ne _ _ (by decide)).trans p319_10) rfl dX16_plus_254 rfl ?_
          refine ks_iload_n dX16_plus_257 rfl rfl ?_
          refine ks_iconst (x := nI 0) dX16_plus_258 (by decide) rfl ?_
          refine ks_iastNN (i := 1) (v := 0) (by decide) (ks_set_same _ _ _) (by decide) (by decide) dX16_plus_259 rfl ?_
          refine ks_incN (c := 1) (e := 2) dX16_plus_260 rfl (by decide) rfl (by decide) rfl ?_
          refine ks_sub [(3, _), (0, _), (1, _), (2, _)] rfl ?_
          refine ks_goto (tgt := 247) dX16_plus_263 (by decide) ?_
          refine ks_iload_n dX16_plus_247 rfl rfl ?_
          refine ks_bipush (x := nI 8) dX16_plus_248 (by decide) rfl ?_
          refine ks_icmp_geN (tgt := 266) (by decide) (by decide) dX16_plus_250 (by decide) rfl (fun h => absurd h (by decide)) (fun _ => ?_)
          refine ks_aload_n dX16_plus_253 rfl rfl ?_
          refine ks_getN (T := TX14) (kf := 2) kx_1797 rfl in_X14 cl_X14 (by decide) ((ks_set_ne _ _ (by decide)).trans ((ks_set_ne _ _ (by decide)).trans p319_10)) rfl dX16_plus_254 rfl ?_
          refine ks_iload_n dX16_plus_257 rfl rfl ?_
          refine ks_iconst (x := nI 0) dX16_plus_258 (by decide) rfl ?_
          refine ks_iastNN (i := 2) (v := 0) (by decide) (ks_set_same _ _ _) (by decide) (by decide) dX16_plus_259 rfl ?_
          refine ks_incN (c := 1) (e := 3) dX16_plus_260 rfl (by decide) rfl (by decide) rfl ?_
          refine ks_sub [(3, _), (0, _), (1, _), (2, _)] rfl ?_
          refine ks_goto (tgt := 247) dX16_plus_263 (by decide) ?_
          refine ks_iload_n dX16_plus_247 rfl rfl ?_
          refine ks_bipush (x := nI 8) dX16_plus_248 (by decide) rfl ?_
          refine ks_icmp_geN (tgt := 266) (by decide) (by decide) dX16_plus_250 (by decide) rfl (fun h => absurd h (by decide)) (fun _ => ?_)
          refine ks_aload_n dX16_plus_253 rfl rfl ?_
          refine ks_getN (T := TX14) (kf := 2) kx_1797 rfl in_X14 cl_X14 (by decide) ((ks_set_ne _ _ (by decide)).trans ((ks_set_ne _ _ (by decide)).trans ((ks_set_ne _ _ (by decide)).trans p319_10))) rfl dX16_plus_254 rfl ?_
          refine ks_iload_n dX16_plus_257 rfl rfl ?_
          refine ks_iconst (x := nI 0) dX16_plus_258 (by decide) rfl ?_
          refine ks_iastNN (i := 3) (v := 0) (by decide) (ks_set_same _ _ _) (by decide) (by decide) dX16_plus_259 rfl ?_
          refine ks_incN (c := 1) (e := 4) dX16_plus_260 rfl (by decide) rfl (by decide) rfl ?_
          refine ks_sub [(3, _), (0, _), (1, _), (2, _)] rfl ?_
          refine ks_goto (tgt := 247) dX16_plus_263 (by decide) ?_
          refine ks_iload_n dX16_plus_247 rfl rfl ?_
          refine ks_bipush (x := nI 8) dX16_plus_248 (by decide) rfl ?_
          refine ks_icmp_geN (tgt := 266) (by decide) (by decide) dX16_plus_250 (by decide) rfl (fun h => absurd h (by decide)) (fun _ => ?_)
          refine ks_aload_n dX16_plus_253 rfl rfl ?_
          refine ks_getN (T := TX14) (kf := 2) kx_1797 rfl in_X14 cl_X14 (by decide) ((ks_set_ne _ _ (by decide)).trans ((ks_set_ne _ _ (by decide)).trans ((ks_set_ne _ _ (by decide)).trans ((ks_set_ne _ _ (by decide)).trans p319_10)))) rfl dX16_plus_254 rfl ?_
          refine ks_iload_n dX16_plus_257 rfl rfl ?_
          refine ks_iconst (x := nI 0) dX16_plus_258 (by decide) rfl ?_
          refine ks_iastNN (i := 4) (v := 0) (by decide) (ks_set_same _ _ _) (by decide) (by decide) dX16_plus_259 rfl ?_
          refine ks_incN (c := 1) (e := 5) dX16_plus_260 rfl (by decide) rfl (by decide) rfl ?_
          refine ks_sub [(3, _), (0, _), (1, _), (2, _)] rfl ?_
          refine ks_goto (tgt := 247) dX16_plus_263 (by decide) ?_
          refine ks_iload_n dX16_plus_247 rfl rfl ?_
          refine ks_bipush (x := nI 8) dX16_plus_248 (by decide) rfl ?_
          refine ks_icmp_geN (tgt := 266) (by decide) (by decide) dX16_plus_250 (by decide) rfl (fun h => absurd h (by decide)) (fun _ => ?_)
          refine ks_aload_n dX16_plus_253 rfl rfl ?_
          refine ks_getN (T := TX14) (kf := 2) kx_1797 rfl in_X14 cl_X14 (by decide) ((ks_set_ne _ _ (by decide)).trans ((ks_set_ne _ _ (by decide)).trans ((ks_set_ne _ _ (by decide)).trans ((ks_set_ne _ _ (by decide)).trans ((ks_set_ne _ _ (by decide)).trans p319_10))))) rfl dX16_plus_254 rfl ?_
          refine ks_iload_n dX16_plus_257 rfl rfl ?_
          refine ks_iconst (x := nI 0) dX16_plus_258 (by decide) rfl ?_
          refine ks_iastNN (i := 5) (v := 0) (by decide) (ks_set_same _ _ _) (by decide) (by decide) dX16_plus_259 rfl ?_
          refine ks_incN (c := 1) (e := 6) dX16_plus_260 rfl (by decide) rfl (by decide) rfl ?_
          refine ks_sub [(3, _), (0, _), (1, _), (2, _)] rfl ?_
          refine ks_goto (tgt := 247) dX16_plus_263 (by decide) ?_
          refine ks_iload_n dX16_plus_247 rfl rfl ?_
          refine ks_bipush (x := nI 8) dX16_plus_248 (by decide) rfl ?_
          refine ks_icmp_geN (tgt := 266) (by decide) (by decide) dX16_plus_250 (by decide) rfl (fun h => absurd h (by decide)) (fun _ => ?_)
          refine ks_aload_n dX16_plus_253 rfl rfl ?_
          refine ks_getN (T := TX14) (kf := 2) kx_1797 rfl in_X14 cl_X14 (by decide) ((ks_set_ne _ _ (by decide)).trans ((ks_set_ne _ _ (by decide)).trans ((ks_set_ne _ _ (by decide)).trans ((ks_set_ne _ _ (by decide)).trans ((ks_set_ne _ _ (by decide)).trans ((ks_set_ne _ _ (by decide)).trans p319_10)))))) rfl dX16_plus_254 rfl ?_
          refine ks_iload_n dX16_plus_257 rfl rfl ?_
          refine ks_iconst (x := nI 0) dX16_plus_258 (by decide) rfl ?_
          refine ks_iastNN (i := 6) (v := 0) (by decide) (ks_set_same _ _ _) (by decide) (by decide) dX16_plus_259 rfl ?_
          refine ks_incN (c := 1) (e := 7) dX16_plus_260 rfl (by decide) rfl (by decide) rfl ?_
          refine ks_sub [(3, _), (0, _), (1, _), (2, _)] rfl ?_
          refine ks_goto (tgt := 247) dX16_plus_263 (by decide) ?_
          refine ks_iload_n dX16_plus_247 rfl rfl ?_
          refine ks_bipush (x := nI 8) dX16_plus_248 (by decide) rfl ?_
          refine ks_icmp_geN (tgt := 266) (by decide) (by decide) dX16_plus_250 (by decide) rfl (fun h => absurd h (by decide)) (fun _ => ?_)
          refine ks_aload_n dX16_plus_253 rfl rfl ?_
          refine ks_getN (T := TX14) (kf := 2) kx_1797 rfl in_X14 cl_X14 (by decide) ((ks_set_ne _ _ (by decide)).trans ((ks_set_ne _ _ (by decide)).trans ((ks_set_ne _ _ (by decide)).trans ((ks_set_ne _ _ (by decide)).trans ((ks_set_ne _ _ (by decide)).trans ((ks_set_ne _ _ (by decide)).trans ((ks_set_ne _ _ (by decide)).trans p319_10))))))) rfl dX16_plus_254 rfl ?_
          refine ks_iload_n dX16_plus_257 rfl rfl ?_
          refine ks_iconst (x := nI 0) dX16_plus_258 (by decide) rfl ?_
          refine ks_iastNN (i := 7) (v := 0) (by decide) (ks_set_same _ _ _) (by decide) (by decide) dX16_plus_259 rfl ?_
          refine ks_incN (c := 1) (e := 8) dX16_plus_260 rfl (by decide) rfl (by decide) rfl ?_
          refine ks_sub [(3, _), (0, _), (1, _), (2, _)] rfl ?_
          refine ks_goto (tgt := 247) dX16_plus_263 (by decide) ?_
          refine ks_iload_n dX16_plus_247 rfl rfl ?_
          refine ks_bipush (x := nI 8) dX16_plus_248 (by decide) rfl ?_
          refine ks_icmp_geN (tgt := 266) (by decide) (by decide) dX16_plus_250 (by decide) rfl (fun _ => ?_) (fun h => absurd h (by decide))
          refine ks_ret rfl dX16_plus_266 ?_
          refine ⟨rfl, (((((((((((ks_up.rf _ _).trans (u_1.mono (by decide))).trans (u_2.mono (by decide))).trans (u_3.mono (by decide))).trans (u_4.mono (by decide))).trans (u_5.mono (by decide))).trans (u_6.mono (by decide))).trans (u_7.mono (by decide))).trans (u_8.mono (by decide))).trans (u_9.mono (by decide))).trans (u_10.mono (by decide))).trans (up8.mono (by decide)), _, c_10.z (by decide) up8 (ks_set_same _ _ _) z8, ?_, fun k hk hk2 => ?_⟩
          · unfold rfA
            rw [if_neg q0, if_neg p0, if_pos d0, if_neg k0]
            rfl
          · rw [va_up_ne _ _ (by omega), va_up_ne _ _ (by omega), va_up_ne _ _ (by omega), va_up_ne _ _ (by omega), va_up_ne _ _ (by omega), va_up_ne _ _ (by omega), va_up_ne _ _ (by omega), va_up_ne _ _ (by omega), va_up_ne _ _ (by omega), va_up_ne _ _ (by omega), va_up_ne _ _ (by omega)]
        · have k0 : ptK (ptR R 320) (ptR R 312) = 0 := eK ▸ (of_decide_eq_true h5 : v_10 = 0)
          refine ks_aload_n dX16_plus_237 rfl rfl ?_
          refine ks_aload_n dX16_plus_238 rfl rfl ?_
          refine ks_callV (n := 1) (M' := mX16_doubled) (c_md_doubled319 (d := d) o_10 c_10) o_10 cl_X16 rfl kx_2313 kx_2315 kxp_116 kx_30 kx_2316 (by decide +kernel) rfl (by decide) (Nat.le_of_ble_eq_true rfl) rfl dX16_plus_239 rfl (fun z4 T4 y4 => ?_)
          obtain ⟨rfl, u4, R4, c4, e4, k4⟩ := y4
          refine ks_goto (tgt := 266) dX16_plus_242 (by decide) ?_
          refine ks_ret rfl dX16_plus_266 ?_
          refine ⟨rfl, (((((((((((ks_up.rf _ _).trans (u_1.mono (by decide))).trans (u_2.mono (by decide))).trans (u_3.mono (by decide))).trans (u_4.mono (by decide))).trans (u_5.mono (by decide))).trans (u_6.mono (by decide))).trans (u_7.mono (by decide))).trans (u_8.mono (by decide))).trans (u_9.mono (by decide))).trans (u_10.mono (by decide))).trans u4, R4, c4, ?_, fun k hk hk2 => ?_⟩
          · rw [e4]
            unfold rfA
            rw [if_neg q0, if_neg p0, if_pos d0, if_pos k0]
            rfl
          · rw [k4 k hk hk2]
            rw [va_up_ne _ _ (by omega), va_up_ne _ _ (by omega), va_up_ne _ _ (by omega), va_up_ne _ _ (by omega), va_up_ne _ _ (by omega), va_up_ne _ _ (by omega), va_up_ne _ _ (by omega), va_up_ne _ _ (by omega), va_up_ne _ _ (by omega), va_up_ne _ _ (by omega)]
    · refine ks_aload_n dX16_plus_21 rfl rfl ?_
      refine ks_aload_n dX16_plus_22 rfl rfl ?_
      refine ks_callV (n := 1) (M' := mX14_take) (c_pt_take311 (d := d + 1) hC) p319_0 cl_X14 rfl kx_2321 kx_2322 kx_2323 kx_31 kx_2324 (by decide +kernel) rfl (by decide) (Nat.le_of_ble_eq_true rfl) rfl dX16_plus_23 rfl (fun z7 T7 y7 => ?_)
      obtain ⟨rfl, u7, c7⟩ := y7
      refine ks_ret rfl dX16_plus_26 ?_
      refine ⟨rfl, u7.mono (by decide), _, c7, ?_, fun k hk hk2 => ?_⟩
      · unfold rfA
        rw [if_neg q0, if_pos (show (ptR R 320).2.2 = 0 from of_decide_eq_true h8)]
        rfl
      · rw [va_up_ne _ _ (by omega), va_up_ne _ _ (by omega), va_up_ne _ _ (by omega)]
  · refine ks_ret rfl dX16_plus_10 ?_
    refine ⟨rfl, ks_up.rf _ _, R, hC, ?_, fun _ _ _ => rfl⟩
    unfold rfA
    rw [if_pos (show (ptR R 312).2.2 = 0 from of_decide_eq_true h9)]
set_option maxRecDepth 100000 in
set_option maxHeartbeats 3200000 in
theorem c_md_plus319 {l : Launch} {G : ks_G} {d : Nat} {S : ks_S} {V : Nat → Value} {R : Nat → Nat} (hO : S.2.2 290 = some (rfE V)) (hC : cvR S R) : ks_P l G yX16_plus mX16_plus (d + 3) [.ref 290, .ref 315, .ref 319] S (fun z S' => z = none ∧ ks_up S S' [552, 316, 317, 318, 323, 324, 325, 326, 327, 328] ∧ ∃ R', cvR S' R' ∧ ptR R' 316 = rfA (ptR R 316) (ptR R 320) ∧ ∀ k, k < 316 ∨ 318 < k → k < 323 → R' k = R k) := by
  have p315_0 : S.2.2 315 = some (.inr (17, [.ref 316, .ref 317, .ref 318])) := hC.2.2.2.2.1
  have p319_0 : S.2.2 319 = some (.inr (17, [.ref 320, .ref 321, .ref 322])) := hC.2.2.2.2.2
  have r_0 := hC.1.1.1
  refine ks_of (by decide) rfl rfl (Nat.le_of_ble_eq_true rfl) ?_
  show ks_X l G mX16_plus (d + 3) 0 [(0, .ref 290), (1, .ref 315), (2, .ref 319)] [] S _
  refine ks_aload_n dX16_plus_0 rfl rfl ?_
  refine ks_getN (T := TX14) (kf := 2) kx_1797 rfl in_X14 cl_X14 (by decide) p319_0 rfl dX16_plus_1 rfl ?_
  refine ks_callS (n := 1) (M' := mX15_isZero) (c_fz (d := d + 2) (a := 322) hC (by decide)) kx_2306 kx_2307 kx_33 kx_2308 (by decide +kernel) rfl (by decide) (Nat.le_of_ble_eq_true rfl) rfl dX16_plus_4 rfl (fun z9 T9 y9 => ?_)
  obtain ⟨rfl, hT9⟩ := y9
  obtain rfl := hT9.symm
  refine ks_if_eqZ (tgt := 11) dX16_plus_7 (by decide) rfl (fun h9 => ?_) (fun h9 => ?_)
  · have q0 : ¬ (ptR R 320).2.2 = 0 := of_decide_eq_false h9
    refine ks_aload_n dX16_plus_11 rfl rfl ?_
    refine ks_getN (T := TX14) (kf := 2) kx_1797 rfl in_X14 cl_X14 (by decide) p315_0 rfl dX16_plus_12 rfl ?_
    refine ks_callS (n := 1) (M' := mX15_isZero) (c_fz (d := d + 2) (a := 318) hC (by decide)) kx_2306 kx_2307 kx_33 kx_2308 (by decide +kernel) rfl (by decide) (Nat.le_of_ble_eq_true rfl) rfl dX16_plus_15 rfl (fun z8 T8 y8 => ?_)
    obtain ⟨rfl, hT8⟩ := y8
    obtain rfl := hT8.symm
    refine ks_if_eqZ (tgt := 27) dX16_plus_18 (by decide) rfl (fun h8 => ?_) (fun h8 => ?_)
    · have p0 : ¬ (ptR R 316).2.2 = 0 := of_decide_eq_false h8
      refine ks_aload_n dX16_plus_27 rfl rfl ?_
      refine ks_getf (T := TX16) (kf := 15) kx_2383 rfl in_X16 cl_X16 (by decide) hO rfl dX16_plus_28 rfl ?_
      refine ks_aload_n dX16_plus_31 rfl rfl ?_
      refine ks_getN (T := TX14) (kf := 2) kx_1797 rfl in_X14 cl_X14 (by decide) p319_0 rfl dX16_plus_32 rfl ?_
      refine ks_aload_n dX16_plus_35 rfl rfl ?_
      refine ks_getN (T := TX14) (kf := 2) kx_1797 rfl in_X14 cl_X14 (by decide) p319_0 rfl dX16_plus_36 rfl ?_
      refine ks_aload_n dX16_plus_39 rfl rfl ?_
      refine ks_getf (T := TX16) (kf := 22) kx_2390 rfl in_X16 cl_X16 (by decide) hO rfl dX16_plus_40 rfl ?_
      refine ks_callV (n := 3) (M' := mX15_multiply) (c_fm (d := (d + 1)) (a := 322) (b := 322) (t := 323) hC (by decide) (by decide) (by decide)) r_0 cl_X15 rfl kx_2285 kx_1922 kx_1923 kx_33 kx_1924 (by decide +kernel) rfl (by decide) (Nat.le_of_ble_eq_true rfl) rfl dX16_plus_43 rfl (fun z_1 T_1 y_1 => ?_)
      obtain ⟨rfl, u_1, y_1⟩ := y_1
      obtain ⟨v_1, e_1⟩ : ∃ v, v = mM (R 322) (R 322) := ⟨_, rfl⟩
      have c_1 : cvR T_1 (va_up R 323 v_1) := by rw [e_1]; exact y_1
      have o_1 := u_1.at hO (by decide)
      clear y_1
      have p315_1 : T_1.2.2 315 = some (.inr (17, [.ref 316, .ref 317, .ref 318])) := c_1.2.2.2.2.1
      have p319_1 : T_1.2.2 319 = some (.inr (17, [.ref 320, .ref 321, .ref 322])) := c_1.2.2.2.2.2
      have r_1 := c_1.1.1.1
      refine ks_aload_n dX16_plus_46 rfl rfl ?_
      refine ks_getf (T := TX16) (kf := 15) kx_2383 rfl in_X16 cl_X16 (by decide) o_1 rfl dX16_plus_47 rfl ?_
      refine ks_aload_n dX16_plus_50 rfl rfl ?_
      refine ks_getN (T := TX14) (kf := 0) kx_1793 rfl in_X14 cl_X14 (by decide) p315_1 rfl dX16_plus_51 rfl ?_
      refine ks_aload_n dX16_plus_54 rfl rfl ?_
      refine ks_getf (T := TX16) (kf := 22) kx_2390 rfl in_X16 cl_X16 (by decide) o_1 rfl dX16_plus_55 rfl ?_
      refine ks_aload_n dX16_plus_58 rfl rfl ?_
      refine ks_getf (T := TX16) (kf := 23) kx_2391 rfl in_X16 cl_X16 (by decide) o_1 rfl dX16_plus_59 rfl ?_
      refine ks_callV (n := 3) (M' := mX15_multiply) (c_fm (d := (d + 1)) (a := 316) (b := 323) (t := 324) c_1 (by decide) (by decide) (by decide)) r_1 cl_X15 rfl kx_2285 kx_1922 kx_1923 kx_33 kx_1924 (by decide +kernel) rfl (by decide) (Nat.le_of_ble_eq_true rfl) rfl dX16_plus_62 rfl (fun z_2 T_2 y_2 => ?_)
      obtain ⟨rfl, u_2, y_2⟩ := y_2
      obtain ⟨v_2, e_2⟩ : ∃ v, v = mM (R 316) v_1 := ⟨_, rfl⟩
      have c_2 : cvR T_2 (va_up (va_up R 323 v_1) 324 v_2) := by rw [e_2]; exact y_2
      have o_2 := u_2.at o_1 (by decide)
      clear y_2
      have p315_2 : T_2.2.2 315 = some (.inr (17, [.ref 316, .ref 317, .ref 318])) := c_2.2.2.2.2.1
      have p319_2 : T_2.2.2 319 = some (.inr (17, [.ref 320, .ref 321, .ref 322])) := c_2.2.2.2.2.2
      have r_2 := c_2.1.1.1
      refine ks_aload_n dX16_plus_65 rfl rfl ?_
      refine ks_getf (T := TX16) (kf := 15) kx_2383 rfl in_X16 cl_X16 (by decide) o_2 rfl dX16_plus_66 rfl ?_
      refine ks_aload_n dX16_plus_69 rfl rfl ?_
      refine ks_getf (T := TX16) (kf := 22) kx_2390 rfl in_X16 cl_X16 (by decide) o_2 rfl dX16_plus_70 rfl ?_
      refine ks_aload_n dX16_plus_73 rfl rfl ?_
      refine ks_getN (T := TX14) (kf := 2) kx_1797 rfl in_X14 cl_X14 (by decide) p319_2 rfl dX16_plus_74 rfl ?_
      refine ks_aload_n dX16_plus_77 rfl rfl ?_
      refine ks_getf (T := TX16) (kf := 22) kx_2390 rfl in_X16 cl_X16 (by decide) o_2 rfl dX16_plus_78 rfl ?_
      refine ks_callV (n := 3) (M' := mX15_multiply) (c_fm (d := (d + 1)) (a := 323) (b := 322) (t := 323) c_2 (by decide) (by decide) (by decide)) r_2 cl_X15 rfl kx_2285 kx_1922 kx_1923 kx_33 kx_1924 (by decide +kernel) rfl (by decide) (Nat.le_of_ble_eq_true rfl) rfl dX16_plus_81 rfl (fun z_3 T_3 y_3 => ?_)
      obtain ⟨rfl, u_3, y_3⟩ := y_3
      obtain ⟨v_3, e_3⟩ : ∃ v, v = mM v_1 (R 322) := ⟨_, rfl⟩
      have c_3 : cvR T_3 (va_up (va_up (va_up R 323 v_1) 324 v_2) 323 v_3) := by rw [e_3]; exact y_3
      have o_3 := u_3.at o_2 (by decide)
      clear y_3
      have p315_3 : T_3.2.2 315 = some (.inr (17, [.ref 316, .ref 317, .ref 318])) := c_3.2.2.2.2.1
      have p319_3 : T_3.2.2 319 = some (.inr (17, [.ref 320, .ref 321, .ref 322])) := c_3.2.2.2.2.2
      have r_3 := c_3.1.1.1
      refine ks_aload_n dX16_plus_84 rfl rfl ?_
      refine ks_getf (T := TX16) (kf := 15) kx_2383 rfl in_X16 cl_X16 (by decide) o_3 rfl dX16_plus_85 rfl ?_
      refine ks_aload_n dX16_plus_88 rfl rfl ?_
      refine ks_getN (T := TX14) (kf := 1) kx_1795 rfl in_X14 cl_X14 (by decide) p315_3 rfl dX16_plus_89 rfl ?_
      refine ks_aload_n dX16_plus_92 rfl rfl ?_
      refine ks_getf (T := TX16) (kf := 22) kx_2390 rfl in_X16 cl_X16 (by decide) o_3 rfl dX16_plus_93 rfl ?_
      refine ks_aload_n dX16_plus_96 rfl rfl ?_
      refine ks_getf (T := TX16) (kf := 22) kx_2390 rfl in_X16 cl_X16 (by decide) o_3 rfl dX16_plus_97 rfl ?_
      refine ks_callV (n := 3) (M' := mX15_multiply) (c_fm (d := (d + 1)) (a := 317) (b := 323) (t := 323) c_3 (by decide) (by decide) (by decide)) r_3 cl_X15 rfl kx_2285 kx_1922 kx_1923 kx_33 kx_1924 (by decide +kernel) rfl (by decide) (Nat.le_of_ble_eq_true rfl) rfl dX16_plus_100 rfl (fun z_4 T_4 y_4 => ?_)
      obtain ⟨rfl, u_4, y_4⟩ := y_4
      obtain ⟨v_4, e_4⟩ : ∃ v, v = mM (R 317) v_3 := ⟨_, rfl⟩
      have c_4 : cvR T_4 (va_up (va_up (va_up (va_up R 323 v_1) 324 v_2) 323 v_3) 323 v_4) := by rw [e_4]; exact y_4
      have o_4 := u_4.at o_3 (by decide)
      clear y_4
      have p315_4 : T_4.2.2 315 = some (.inr (17, [.ref 316, .ref 317, .ref 318])) := c_4.2.2.2.2.1
      have p319_4 : T_4.2.2 319 = some (.inr (17, [.ref 320, .ref 321, .ref 322])) := c_4.2.2.2.2.2
      have r_4 := c_4.1.1.1
      refine ks_aload_n dX16_plus_103 rfl rfl ?_
      refine ks_getf (T := TX16) (kf := 15) kx_2383 rfl in_X16 cl_X16 (by decide) o_4 rfl dX16_plus_104 rfl ?_
      refine ks_aload_n dX16_plus_107 rfl rfl ?_
      refine ks_getN (T := TX14) (kf := 2) kx_1797 rfl in_X14 cl_X14 (by decide) p315_4 rfl dX16_plus_108 rfl ?_
      refine ks_aload_n dX16_plus_111 rfl rfl ?_
      refine ks_getN (T := TX14) (kf := 2) kx_1797 rfl in_X14 cl_X14 (by decide) p315_4 rfl dX16_plus_112 rfl ?_
      refine ks_aload_n dX16_plus_115 rfl rfl ?_
      refine ks_getf (T := TX16) (kf := 24) kx_2392 rfl in_X16 cl_X16 (by decide) o_4 rfl dX16_plus_116 rfl ?_
      refine ks_callV (n := 3) (M' := mX15_multiply) (c_fm (d := (d + 1)) (a := 318) (b := 318) (t := 325) c_4 (by decide) (by decide) (by decide)) r_4 cl_X15 rfl kx_2285 kx_1922 kx_1923 kx_33 kx_1924 (by decide +kernel) rfl (by decide) (Nat.le_of_ble_eq_true rfl) rfl dX16_plus_119 rfl (fun z_5 T_5 y_5 => ?_)
      obtain ⟨rfl, u_5, y_5⟩ := y_5
      obtain ⟨v_5, e_5⟩ : ∃ v, v = mM (R 318) (R 318) := ⟨_, rfl⟩
      have c_5 : cvR T_5 (va_up (va_up (va_up (va_up (va_up R 323 v_1) 324 v_2) 323 v_3) 323 v_4) 325 v_5) := by rw [e_5]; exact y_5
      have o_5 := u_5.at o_4 (by decide)
      clear y_5
      have p315_5 : T_5.2.2 315 = some (.inr (17, [.ref 316, .ref 317, .ref 318])) := c_5.2.2.2.2.1
      have p319_5 : T_5.2.2 319 = some (.inr (17, [.ref 320, .ref 321, .ref 322])) := c_5.2.2.2.2.2
      have r_5 := c_5.1.1.1
      refine ks_aload_n dX16_plus_122 rfl rfl ?_
      refine ks_getf (T := TX16) (kf := 15) kx_2383 rfl in_X16 cl_X16 (by decide) o_5 rfl dX16_plus_123 rfl ?_
      refine ks_aload_n dX16_plus_126 rfl rfl ?_
      refine ks_getN (T := TX14) (kf := 0) kx_1793 rfl in_X14 cl_X14 (by decide) p319_5 rfl dX16_plus_127 rfl ?_
      refine ks_aload_n dX16_plus_130 rfl rfl ?_
      refine ks_getf (T := TX16) (kf := 24) kx_2392 rfl in_X16 cl_X16 (by decide) o_5 rfl dX16_plus_131 rfl ?_
      refine ks_aload_n dX16_plus_134 rfl rfl ?_
      refine ks_getf (T := TX16) (kf := 25) kx_2393 rfl in_X16 cl_X16 (by decide) o_5 rfl dX16_plus_135 rfl ?_
      refine ks_callV (n := 3) (M' := mX15_multiply) (c_fm (d := (d + 1)) (a := 320) (b := 325) (t := 326) c_5 (by decide) (by decide) (by decide)) r_5 cl_X15 rfl kx_2285 kx_1922 kx_1923 kx_33 kx_1924 (by decide +kernel) rfl (by decide) (Nat.le_of_ble_eq_true rfl) rfl dX16_plus_138 rfl (fun z_6 T_6 y_6 => ?_)
      obtain ⟨rfl, u_6, y_6⟩ := y_6
      obtain ⟨v_6, e_6⟩ : ∃ v, v = mM (R 320) v_5 := ⟨_, rfl⟩
      have c_6 : cvR T_6 (va_up (va_up (va_up (va_up (va_up (va_up R 323 v_1) 324 v_2) 323 v_3) 323 v_4) 325 v_5) 326 v_6) := by rw [e_6]; exact y_6
      have o_6 := u_6.at o_5 (by decide)
      clear y_6
      have p315_6 : T_6.2.2 315 = some (.inr (17, [.ref 316, .ref 317, .ref 318])) := c_6.2.2.2.2.1
      have p319_6 : T_6.2.2 319 = some (.inr (17, [.ref 320, .ref 321, .ref 322])) := c_6.2.2.2.2.2
      have r_6 := c_6.1.1.1
      refine ks_aload_n dX16_plus_141 rfl rfl ?_
      refine ks_getf (T := TX16) (kf := 15) kx_2383 rfl in_X16 cl_X16 (by decide) o_6 rfl dX16_plus_142 rfl ?_
      refine ks_aload_n dX16_plus_145 rfl rfl ?_
      refine ks_getf (T := TX16) (kf := 24) kx_2392 rfl in_X16 cl_X16 (by decide) o_6 rfl dX16_plus_146 rfl ?_
      refine ks_aload_n dX16_plus_149 rfl rfl ?_
      refine ks_getN (T := TX14) (kf := 2) kx_1797 rfl in_X14 cl_X14 (by decide) p315_6 rfl dX16_plus_150 rfl ?_
      refine ks_aload_n dX16_plus_153 rfl rfl ?_
      refine ks_getf (T := TX16) (kf := 24) kx_2392 rfl in_X16 cl_X16 (by decide) o_6 rfl dX16_plus_154 rfl ?_
      refine ks_callV (n := 3) (M' := mX15_multiply) (c_fm (d := (d + 1)) (a := 325) (b := 318) (t := 325) c_6 (by decide) (by decide) (by decide)) r_6 cl_X15 rfl kx_2285 kx_1922 kx_1923 kx_33 kx_1924 (by decide +kernel) rfl (by decide) (Nat.le_of_ble_eq_true rfl) rfl dX16_plus_157 rfl (fun z_7 T_7 y_7 => ?_)
      obtain ⟨rfl, u_7, y_7⟩ := y_7
      obtain ⟨v_7, e_7⟩ : ∃ v, v = mM v_5 (R 318) := ⟨_, rfl⟩
      have c_7 : cvR T_7 (va_up (va_up (va_up (va_up (va_up (va_up (va_up R 323 v_1) 324 v_2) 323 v_3) 323 v_4) 325 v_5) 326 v_6) 325 v_7) := by rw [e_7]; exact y_7
      have o_7 := u_7.at o_6 (by decide)
      clear y_7
      have p315_7 : T_7.2.2 315 = some (.inr (17, [.ref 316, .ref 317, .ref 318])) := c_7.2.2.2.2.1
      have p319_7 : T_7.2.2 319 = some (.inr (17, [.ref 320, .ref 321, .ref 322])) := c_7.2.2.2.2.2
      have r_7 := c_7.1.1.1
      refine ks_aload_n dX16_plus_160 rfl rfl ?_
      refine ks_getf (T := TX16) (kf := 15) kx_2383 rfl in_X16 cl_X16 (by decide) o_7 rfl dX16_plus_161 rfl ?_
      refine ks_aload_n dX16_plus_164 rfl rfl ?_
      refine ks_getN (T := TX14) (kf := 1) kx_1795 rfl in_X14 cl_X14 (by decide) p319_7 rfl dX16_plus_165 rfl ?_
      refine ks_aload_n dX16_plus_168 rfl rfl ?_
      refine ks_getf (T := TX16) (kf := 24) kx_2392 rfl in_X16 cl_X16 (by decide) o_7 rfl dX16_plus_169 rfl ?_
      refine ks_aload_n dX16_plus_172 rfl rfl ?_
      refine ks_getf (T := TX16) (kf := 24) kx_2392 rfl in_X16 cl_X16 (by decide) o_7 rfl dX16_plus_173 rfl ?_
      refine ks_callV (n := 3) (M' := mX15_multiply) (c_fm (d := (d + 1)) (a := 321) (b := 325) (t := 325) c_7 (by decide) (by decide) (by decide)) r_7 cl_X15 rfl kx_2285 kx_1922 kx_1923 kx_33 kx_1924 (by decide +kernel) rfl (by decide) (Nat.le_of_ble_eq_true rfl) rfl dX16_plus_176 rfl (fun z_8 T_8 y_8 => ?_)
      obtain ⟨rfl, u_8, y_8⟩ := y_8
      obtain ⟨v_8, e_8⟩ : ∃ v, v = mM (R 321) v_7 := ⟨_, rfl⟩
      have c_8 : cvR T_8 (va_up (va_up (va_up (va_up (va_up (va_up (va_up (va_up R 323 v_1) 324 v_2) 323 v_3) 323 v_4) 325 v_5) 326 v_6) 325 v_7) 325 v_8) := by rw [e_8]; exact y_8
      have o_8 := u_8.at o_7 (by decide)
      clear y_8
      have p315_8 : T_8.2.2 315 = some (.inr (17, [.ref 316, .ref 317, .ref 318])) := c_8.2.2.2.2.1
      have p319_8 : T_8.2.2 319 = some (.inr (17, [.ref 320, .ref 321, .ref 322])) := c_8.2.2.2.2.2
      have r_8 := c_8.1.1.1
      refine ks_aload_n dX16_plus_179 rfl rfl ?_
      refine ks_getf (T := TX16) (kf := 15) kx_2383 rfl in_X16 cl_X16 (by decide) o_8 rfl dX16_plus_180 rfl ?_
      refine ks_aload_n dX16_plus_183 rfl rfl ?_
      refine ks_getf (T := TX16) (kf := 25) kx_2393 rfl in_X16 cl_X16 (by decide) o_8 rfl dX16_plus_184 rfl ?_
      refine ks_aload_n dX16_plus_187 rfl rfl ?_
      refine ks_getf (T := TX16) (kf := 23) kx_2391 rfl in_X16 cl_X16 (by decide) o_8 rfl dX16_plus_188 rfl ?_
      refine ks_aload_n dX16_plus_191 rfl rfl ?_
      refine ks_getf (T := TX16) (kf := 25) kx_2393 rfl in_X16 cl_X16 (by decide) o_8 rfl dX16_plus_192 rfl ?_
      refine ks_callV (n := 3) (M' := mX15_subtract) (c_fs (d := (d + 1)) (a := 326) (b := 324) (t := 326) c_8 (by decide) (by decide) (by decide)) r_8 cl_X15 rfl kx_2298 kx_2299 kx_2300 kx_33 kx_2301 (by decide +kernel) rfl (by decide) (Nat.le_of_ble_eq_true rfl) rfl dX16_plus_195 rfl (fun z_9 T_9 y_9 => ?_)
      obtain ⟨rfl, u_9, y_9⟩ := y_9
      obtain ⟨v_9, e_9⟩ : ∃ v, v = sM v_6 v_2 := ⟨_, rfl⟩
      have c_9 : cvR T_9 (va_up (va_up (va_up (va_up (va_up (va_up (va_up (va_up (va_up R 323 v_1) 324 v_2) 323 v_3) 323 v_4) 325 v_5) 326 v_6) 325 v_7) 325 v_8) 326 v_9) := by rw [e_9]; exact y_9
      have o_9 := u_9.at o_8 (by decide)
      clear y_9
      have p315_9 : T_9.2.2 315 = some (.inr (17, [.ref 316, .ref 317, .ref 318])) := c_9.2.2.2.2.1
      have p319_9 : T_9.2.2 319 = some (.inr (17, [.ref 320, .ref 321, .ref 322])) := c_9.2.2.2.2.2
      have r_9 := c_9.1.1.1
      refine ks_aload_n dX16_plus_198 rfl rfl ?_
      refine ks_getf (T := TX16) (kf := 15) kx_2383 rfl in_X16 cl_X16 (by decide) o_9 rfl dX16_plus_199 rfl ?_
      refine ks_aload_n dX16_plus_202 rfl rfl ?_
      refine ks_getf (T := TX16) (kf := 24) kx_2392 rfl in_X16 cl_X16 (by decide) o_9 rfl dX16_plus_203 rfl ?_
      refine ks_aload_n dX16_plus_206 rfl rfl ?_
      refine ks_getf (T := TX16) (kf := 22) kx_2390 rfl in_X16 cl_X16 (by decide) o_9 rfl dX16_plus_207 rfl ?_
      refine ks_aload_n dX16_plus_210 rfl rfl ?_
      refine ks_getf (T := TX16) (kf := 24) kx_2392 rfl in_X16 cl_X16 (by decide) o_9 rfl dX16_plus_211 rfl ?_
      refine ks_callV (n := 3) (M' := mX15_subtract) (c_fs (d := (d + 1)) (a := 325) (b := 323) (t := 325) c_9 (by decide) (by decide) (by decide)) r_9 cl_X15 rfl kx_2298 kx_2299 kx_2300 kx_33 kx_2301 (by decide +kernel) rfl (by decide) (Nat.le_of_ble_eq_true rfl) rfl dX16_plus_214 rfl (fun z_10 T_10 y_10 => ?_)
      obtain ⟨rfl, u_10, y_10⟩ := y_10
      obtain ⟨v_10, e_10⟩ : ∃ v, v = sM v_8 v_4 := ⟨_, rfl⟩
      have c_10 : cvR T_10 (va_up (va_up (va_up (va_up (va_up (va_up (va_up (va_up (va_up (va_up R 323 v_1) 324 v_2) 323 v_3) 323 v_4) 325 v_5) 326 v_6) 325 v_7) 325 v_8) 326 v_9) 325 v_10) := by rw [e_10]; exact y_10
      have o_10 := u_10.at o_9 (by decide)
      clear y_10
      have p315_10 : T_10.2.2 315 = some (.inr (17, [.ref 316, .ref 317, .ref 318])) := c_10.2.2.2.2.1
      have p319_10 : T_10.2.2 319 = some (.inr (17, [.ref 320, .ref 321, .ref 322])) := c_10.2.2.2.2.2
      have r_10 := c_10.1.1.1
      
      have eH : v_9 = ptH (ptR R 316) (ptR R 320) := by rw [e_9, e_6, e_5, e_2, e_1]; rfl
      have eV : v_4 = adV (ptR R 316).2.1 (ptR R 320).2.2 := by rw [e_4, e_3, e_1]; exact rd_V _ _
      have eK : v_10 = ptK (ptR R 316) (ptR R 320) := by rw [e_10, e_8, e_7, e_5, eV]; exact rd_K _ _ _ _
      have eU : v_2 = adU (ptR R 316).1 (ptR R 320).2.2 := by rw [e_2, e_1]; rfl
      refine ks_aload_n dX16_plus_217 rfl rfl ?_
      refine ks_getf (T := TX16) (kf := 25) kx_2393 rfl in_X16 cl_X16 (by decide) o_10 rfl dX16_plus_218 rfl ?_
      refine ks_callS (n := 1) (M' := mX15_isZero) (c_fz (d := d + 2) (a := 326) c_10 (by decide)) kx_2306 kx_2307 kx_33 kx_2308 (by decide +kernel) rfl (by decide) (Nat.le_of_ble_eq_true rfl) rfl dX16_plus_221 rfl (fun z6 T6 y6 => ?_)
      obtain ⟨rfl, hT6⟩ := y6
      obtain rfl := hT6.symm
      refine ks_if_eqZ (tgt := 267) dX16_plus_224 (by decide) rfl (fun h6 => ?_) (fun h6 => ?_)
      · have d0 : ¬ ptH (ptR R 316) (ptR R 320) = 0 := eH ▸ (of_decide_eq_false h6 : ¬ v_9 = 0)
        refine ks_aload_n dX16_plus_267 rfl rfl ?_
        refine ks_getf (T := TX16) (kf := 15) kx_2383 rfl in_X16 cl_X16 (by decide) o_10 rfl dX16_plus_268 rfl ?_
        refine ks_aload_n dX16_plus_271 rfl rfl ?_
        refine ks_getN (T := TX14) (kf := 2) kx_1797 rfl in_X14 cl_X14 (by decide) p315_10 rfl dX16_plus_272 rfl ?_
        refine ks_aload_n dX16_plus_275 rfl rfl ?_
        refine ks_getN (T := TX14) (kf := 2) kx_1797 rfl in_X14 cl_X14 (by decide) p319_10 rfl dX16_plus_276 rfl ?_
        refine ks_aload_n dX16_plus_279 rfl rfl ?_
        refine ks_getN (T := TX14) (kf := 2) kx_1797 rfl in_X14 cl_X14 (by decide) p315_10 rfl dX16_plus_280 rfl ?_
        refine ks_callV (n := 3) (M' := mX15_multiply) (c_fm (d := (d + 1)) (a := 318) (b := 322) (t := 318) c_10 (by decide) (by decide) (by decide)) r_10 cl_X15 rfl kx_2285 kx_1922 kx_1923 kx_33 kx_1924 (by decide +kernel) rfl (by decide) (Nat.le_of_ble_eq_true rfl) rfl dX16_plus_283 rfl (fun z_11 T_11 y_11 => ?_)
        obtain ⟨rfl, u_11, y_11⟩ := y_11
        obtain ⟨v_11, e_11⟩ : ∃ v, v = mM (R 318) (R 322) := ⟨_, rfl⟩
        have c_11 : cvR T_11 (va_up (va_up (va_up (va_up (va_up (va_up (va_up (va_up (va_up (va_up (va_up R 323 v_1) 324 v_2) 323 v_3) 323 v_4) 325 v_5) 326 v_6) 325 v_7) 325 v_8) 326 v_9) 325 v_10) 318 v_11) := by rw [e_11]; exact y_11
        have o_11 := u_11.at o_10 (by decide)
        clear y_11
        have p315_11 : T_11.2.2 315 = some (.inr (17, [.ref 316, .ref 317, .ref 318])) := c_11.2.2.2.2.1
        have p319_11 : T_11.2.2 319 = some (.inr (17, [.ref 320, .ref 321, .ref 322])) := c_11.2.2.2.2.2
        have r_11 := c_11.1.1.1
        refine ks_aload_n dX16_plus_286 rfl rfl ?_
        refine ks_getf (T := TX16) (kf := 15) kx_2383 rfl in_X16 cl_X16 (by decide) o_11 rfl dX16_plus_287 rfl ?_
        refine ks_aload_n dX16_plus_290 rfl rfl ?_
        refine ks_getN (T := TX14) (kf := 2) kx_1797 rfl in_X14 cl_X14 (by decide) p315_11 rfl dX16_plus_291 rfl ?_
        refine ks_aload_n dX16_plus_294 rfl rfl ?_
        refine ks_getf (T := TX16) (kf := 25) kx_2393 rfl in_X16 cl_X16 (by decide) o_11 rfl dX16_plus_295 rfl ?_
        refine ks_aload_n dX16_plus_298 rfl rfl ?_
        refine ks_getN (T := TX14) (kf := 2) kx_1797 rfl in_X14 cl_X14 (by decide) p315_11 rfl dX16_plus_299 rfl ?_
        refine ks_callV (n := 3) (M' := mX15_multiply) (c_fm (d := (d + 1)) (a := 318) (b := 326) (t := 318) c_11 (by decide) (by decide) (by decide)) r_11 cl_X15 rfl kx_2285 kx_1922 kx_1923 kx_33 kx_1924 (by decide +kernel) rfl (by decide) (Nat.le_of_ble_eq_true rfl) rfl dX16_plus_302 rfl (fun z_12 T_12 y_12 => ?_)
        obtain ⟨rfl, u_12, y_12⟩ := y_12
        obtain ⟨v_12, e_12⟩ : ∃ v, v = mM v_11 v_9 := ⟨_, rfl⟩
        have c_12 : cvR T_12 (va_up (va_up (va_up (va_up (va_up (va_up (va_up (va_up (va_up (va_up (va_up (va_up R 323 v_1) 324 v_2) 323 v_3) 323 v_4) 325 v_5) 326 v_6) 325 v_7) 325 v_8) 326 v_9) 325 v_10) 318 v_11) 318 v_12) := by rw [e_12]; exact y_12
        have o_12 := u_12.at o_11 (by decide)
        clear y_12
        have p315_12 : T_12.2.2 315 = some (.inr (17, [.ref 316, .ref 317, .ref 318])) := c_12.2.2.2.2.1
        have p319_12 : T_12.2.2 319 = some (.inr (17, [.ref 320, .ref 321, .ref 322])) := c_12.2.2.2.2.2
        have r_12 := c_12.1.1.1
        refine ks_aload_n dX16_plus_305 rfl rfl ?_
        refine ks_getf (T := TX16) (kf := 15) kx_2383 rfl in_X16 cl_X16 (by decide) o_12 rfl dX16_plus_306 rfl ?_
        refine ks_aload_n dX16_plus_309 rfl rfl ?_
        refine ks_getf (T := TX16) (kf := 25) kx_2393 rfl in_X16 cl_X16 (by decide) o_12 rfl dX16_plus_310 rfl ?_
        refine ks_aload_n dX16_plus_313 rfl rfl ?_
        refine ks_getf (T := TX16) (kf := 25) kx_2393 rfl in_X16 cl_X16 (by decide) o_12 rfl dX16_plus_314 rfl ?_
        refine ks_aload_n dX16_plus_317 rfl rfl ?_
        refine ks_getf (T := TX16) (kf := 26) kx_2394 rfl in_X16 cl_X16 (by decide) o_12 rfl dX16_plus_318 rfl ?_
        refine ks_callV (n := 3) (M' := mX15_multiply) (c_fm (d := (d + 1)) (a := 326) (b := 326) (t := 327) c_12 (by decide) (by decide) (by decide)) r_12 cl_X15 rfl kx_2285 kx_1922 kx_1923 kx_33 kx_1924 (by decide +kernel) rfl (by decide) (Nat.le_of_ble_eq_true rfl) rfl dX16_plus_321 rfl (fun z_13 T_13 y_13 => ?_)
        obtain ⟨rfl, u_13, y_13⟩ := y_13
        obtain ⟨v_13, e_13⟩ : ∃ v, v = mM v_9 v_9 := ⟨_, rfl⟩
        have c_13 : cvR T_13 (va_up (va_up (va_up (va_up (va_up (va_up (va_up (va_up (va_up (va_up (va_up (va_up (va_up R 323 v_1) 324 v_2) 323 v_3) 323 v_4) 325 v_5) 326 v_6) 325 v_7) 325 v_8) 326 v_9) 325 v_10) 318 v_11) 318 v_12) 327 v_13) := by rw [e_13]; exact y_13
        have o_13 := u_13.at o_12 (by decide)
        clear y_13
        have p315_13 : T_13.2.2 315 = some (.inr (17, [.ref 316, .ref 317, .ref 318])) := c_13.2.2.2.2.1
        have p319_13 : T_13.2.2 319 = some (.inr (17, [.ref 320, .ref 321, .ref 322])) := c_13.2.2.2.2.2
        have r_13 := c_13.1.1.1
        refine ks_aload_n dX16_plus_324 rfl rfl ?_
        refine ks_getf (T := TX16) (kf := 15) kx_2383 rfl in_X16 cl_X16 (by decide) o_13 rfl dX16_plus_325 rfl ?_
        refine ks_aload_n dX16_plus_328 rfl rfl ?_
        refine ks_getf (T := TX16) (kf := 23) kx_2391 rfl in_X16 cl_X16 (by decide) o_13 rfl dX16_plus_329 rfl ?_
        refine ks_aload_n dX16_plus_332 rfl rfl ?_
        refine ks_getf (T := TX16) (kf := 26) kx_2394 rfl in_X16 cl_X16 (by decide) o_13 rfl dX16_plus_333 rfl ?_
        refine ks_aload_n dX16_plus_336 rfl rfl ?_
        refine ks_getf (T := TX16) (kf := 23) kx_2391 rfl in_X16 cl_X16 (by decide) o_13 rfl dX16_plus_337 rfl ?_
        refine ks_callV (n := 3) (M' := mX15_multiply) (c_fm (d := (d + 1)) (a := 324) (b := 327) (t := 324) c_13 (by decide) (by decide) (by decide)) r_13 cl_X15 rfl kx_2285 kx_1922 kx_1923 kx_33 kx_1924 (by decide +kernel) rfl (by decide) (Nat.le_of_ble_eq_true rfl) rfl dX16_plus_340 rfl (fun z_14 T_14 y_14 => ?_)
        obtain ⟨rfl, u_14, y_14⟩ := y_14
        obtain ⟨v_14, e_14⟩ : ∃ v, v = mM v_2 v_13 := ⟨_, rfl⟩
        have c_14 : cvR T_14 (va_up (va_up (va_up (va_up (va_up (va_up (va_up (va_up (va_up (va_up (va_up (va_up (va_up (va_up R 323 v_1) 324 v_2) 323 v_3) 323 v_4) 325 v_5) 326 v_6) 325 v_7) 325 v_8) 326 v_9) 325 v_10) 318 v_11) 318 v_12) 327 v_13) 324 v_14) := by rw [e_14]; exact y_14
        have o_14 := u_14.at o_13 (by decide)
        clear y_14
        have p315_14 : T_14.2.2 315 = some (.inr (17, [.ref 316, .ref 317, .ref 318])) := c_14.2.2.2.2.1
        have p319_14 : T_14.2.2 319 = some (.inr (17, [.ref 320, .ref 321, .ref 322])) := c_14.2.2.2.2.2
        have r_14 := c_14.1.1.1
        refine ks_aload_n dX16_plus_343 rfl rfl ?_
        refine ks_getf (T := TX16) (kf := 15) kx_2383 rfl in_X16 cl_X16 (by decide) o_14 rfl dX16_plus_344 rfl ?_
        refine ks_aload_n dX16_plus_347 rfl rfl ?_
        refine ks_getf (T := TX16) (kf := 26) kx_2394 rfl in_X16 cl_X16 (by decide) o_14 rfl dX16_plus_348 rfl ?_
        refine ks_aload_n dX16_plus_351 rfl rfl ?_
        refine ks_getf (T := TX16) (kf := 25) kx_2393 rfl in_X16 cl_X16 (by decide) o_14 rfl dX16_plus_352 rfl ?_
        refine ks_aload_n dX16_plus_355 rfl rfl ?_
        refine ks_getf (T := TX16) (kf := 26) kx_2394 rfl in_X16 cl_X16 (by decide) o_14 rfl dX16_plus_356 rfl ?_
        refine ks_callV (n := 3) (M' := mX15_multiply) (c_fm (d := (d + 1)) (a := 327) (b := 326) (t := 327) c_14 (by decide) (by decide) (by decide)) r_14 cl_X15 rfl kx_2285 kx_1922 kx_1923 kx_33 kx_1924 (by decide +kernel) rfl (by decide) (Nat.le_of_ble_eq_true rfl) rfl dX16_plus_359 rfl (fun z_15 T_15 y_15 => ?_)
        obtain ⟨rfl, u_15, y_15⟩ := y_15
        obtain ⟨v_15, e_15⟩ : ∃ v, v = mM v_13 v_9 := ⟨_, rfl⟩
        have c_15 : cvR T_15 (va_up (va_up (va_up (va_up (va_up (va_up (va_up (va_up (va_up (va_up (va_up (va_up (va_up (va_up (va_up R 323 v_1) 324 v_2) 323 v_3) 323 v_4) 325 v_5) 326 v_6) 325 v_7) 325 v_8) 326 v_9) 325 v_10) 318 v_11) 318 v_12) 327 v_13) 324 v_14) 327 v_15) := by rw [e_15]; exact y_15
        have o_15 := u_15.at o_14 (by decide)
        clear y_15
        have p315_15 : T_15.2.2 315 = some (.inr (17, [.ref 316, .ref 317, .ref 318])) := c_15.2.2.2.2.1
        have p319_15 : T_15.2.2 319 = some (.inr (17, [.ref 320, .ref 321, .ref 322])) := c_15.2.2.2.2.2
        have r_15 := c_15.1.1.1
        refine ks_aload_n dX16_plus_362 rfl rfl ?_
        refine ks_getf (T := TX16) (kf := 15) kx_2383 rfl in_X16 cl_X16 (by decide) o_15 rfl dX16_plus_363 rfl ?_
        refine ks_aload_n dX16_plus_366 rfl rfl ?_
        refine ks_getf (T := TX16) (kf := 24) kx_2392 rfl in_X16 cl_X16 (by decide) o_15 rfl dX16_plus_367 rfl ?_
        refine ks_aload_n dX16_plus_370 rfl rfl ?_
        refine ks_getf (T := TX16) (kf := 24) kx_2392 rfl in_X16 cl_X16 (by decide) o_15 rfl dX16_plus_371 rfl ?_
        refine ks_aload_n dX16_plus_374 rfl rfl ?_
        refine ks_getN (T := TX14) (kf := 0) kx_1793 rfl in_X14 cl_X14 (by decide) p315_15 rfl dX16_plus_375 rfl ?_
        refine ks_callV (n := 3) (M' := mX15_multiply) (c_fm (d := (d + 1)) (a := 325) (b := 325) (t := 316) c_15 (by decide) (by decide) (by decide)) r_15 cl_X15 rfl kx_2285 kx_1922 kx_1923 kx_33 kx_1924 (by decide +kernel) rfl (by decide) (Nat.le_of_ble_eq_true rfl) rfl dX16_plus_378 rfl (fun z_16 T_16 y_16 => ?_)
        obtain ⟨rfl, u_16, y_16⟩ := y_16
        obtain ⟨v_16, e_16⟩ : ∃ v, v = mM v_10 v_10 := ⟨_, rfl⟩
        have c_16 : cvR T_16 (va_up (va_up (va_up (va_up (va_up (va_up (va_up (va_up (va_up (va_up (va_up (va_up (va_up (va_up (va_up (va_up R 323 v_1) 324 v_2) 323 v_3) 323 v_4) 325 v_5) 326 v_6) 325 v_7) 325 v_8) 326 v_9) 325 v_10) 318 v_11) 318 v_12) 327 v_13) 324 v_14) 327 v_15) 316 v_16) := by rw [e_16]; exact y_16
        have o_16 := u_16.at o_15 (by decide)
        clear y_16
        have p315_16 : T_16.2.2 315 = some (.inr (17, [.ref 316, .ref 317, .ref 318])) := c_16.2.2.2.2.1
        have p319_16 : T_16.2.2 319 = some (.inr (17, [.ref 320, .ref 321, .ref 322])) := c_16.2.2.2.2.2
        have r_16 := c_16.1.1.1
        refine ks_aload_n dX16_plus_381 rfl rfl ?_
        refine ks_getf (T := TX16) (kf := 15) kx_2383 rfl in_X16 cl_X16 (by decide) o_16 rfl dX16_plus_382 rfl ?_
        refine ks_aload_n dX16_plus_385 rfl rfl ?_
        refine ks_getN (T := TX14) (kf := 0) kx_1793 rfl in_X14 cl_X14 (by decide) p315_16 rfl dX16_plus_386 rfl ?_
        refine ks_aload_n dX16_plus_389 rfl rfl ?_
        refine ks_getf (T := TX16) (kf := 26) kx_2394 rfl in_X16 cl_X16 (by decide) o_16 rfl dX16_plus_390 rfl ?_
        refine ks_aload_n dX16_plus_393 rfl rfl ?_
        refine ks_getN (T := TX14) (kf := 0) kx_1793 rfl in_X14 cl_X14 (by decide) p315_16 rfl dX16_plus_394 rfl ?_
        refine ks_callV (n := 3) (M' := mX15_subtract) (c_fs (d := (d + 1)) (a := 316) (b := 327) (t := 316) c_16 (by decide) (by decide) (by decide)) r_16 cl_X15 rfl kx_2298 kx_2299 kx_2300 kx_33 kx_2301 (by decide +kernel) rfl (by decide) (Nat.le_of_ble_eq_true rfl) rfl dX16_plus_397 rfl (fun z_17 T_17 y_17 => ?_)
        obtain ⟨rfl, u_17, y_17⟩ := y_17
        obtain ⟨v_17, e_17⟩ : ∃ v, v = sM v_16 v_15 := ⟨_, rfl⟩
        have c_17 : cvR T_17 (va_up (va_up (va_up (va_up (va_up (va_up (va_up (va_up (va_up (va_up (va_up (va_up (va_up (va_up (va_up (va_up (va_up R 323 v_1) 324 v_2) 323 v_3) 323 v_4) 325 v_5) 326 v_6) 325 v_7) 325 v_8) 326 v_9) 325 v_10) 318 v_11) 318 v_12) 327 v_13) 324 v_14) 327 v_15) 316 v_16) 316 v_17) := by rw [e_17]; exact y_17
        have o_17 := u_17.at o_16 (by decide)
        clear y_17
        have p315_17 : T_17.2.2 315 = some (.inr (17, [.ref 316, .ref 317, .ref 318])) := c_17.2.2.2.2.1
        have p319_17 : T_17.2.2 319 = some (.inr (17, [.ref 320, .ref 321, .ref 322])) := c_17.2.2.2.2.2
        have r_17 := c_17.1.1.1
        refine ks_aload_n dX16_plus_400 rfl rfl ?_
        refine ks_getf (T := TX16) (kf := 15) kx_2383 rfl in_X16 cl_X16 (by decide) o_17 rfl dX16_plus_401 rfl ?_
        refine ks_aload_n dX16_plus_404 rfl rfl ?_
        refine ks_getN (T := TX14) (kf := 0) kx_1793 rfl in_X14 cl_X14 (by decide) p315_17 rfl dX16_plus_405 rfl ?_
        refine ks_aload_n dX16_plus_408 rfl rfl ?_
        refine ks_getf (T := TX16) (kf := 23) kx_2391 rfl in_X16 cl_X16 (by decide) o_17 rfl dX16_plus_409 rfl ?_
        refine ks_aload_n dX16_plus_412 rfl rfl ?_
        refine ks_getN (T := TX14) (kf := 0) kx_1793 rfl in_X14 cl_X14 (by decide) p315_17 rfl dX16_plus_413 rfl ?_
        refine ks_callV (n := 3) (M' := mX15_subtract) (c_fs (d := (d + 1)) (a := 316) (b := 324) (t := 316) c_17 (by decide) (by decide) (by decide)) r_17 cl_X15 rfl kx_2298 kx_2299 kx_2300 kx_33 kx_2301 (by decide +kernel) rfl (by decide) (Nat.le_of_ble_eq_true rfl) rfl dX16_plus_416 rfl (fun z_18 T_18 y_18 => ?_)
        obtain ⟨rfl, u_18, y_18⟩ := y_18
        obtain ⟨v_18, e_18⟩ : ∃ v, v = sM v_17 v_14 := ⟨_, rfl⟩
        have c_18 : cvR T_18 (va_up (va_up (va_up (va_up (va_up (va_up (va_up (va_up (va_up (va_up (va_up (va_up (va_up (va_up (va_up (va_up (va_up (va_up R 323 v_1) 324 v_2) 323 v_3) 323 v_4) 325 v_5) 326 v_6) 325 v_7) 325 v_8) 326 v_9) 325 v_10) 318 v_11) 318 v_12) 327 v_13) 324 v_14) 327 v_15) 316 v_16) 316 v_17) 316 v_18) := by rw [e_18]; exact y_18
        have o_18 := u_18.at o_17 (by decide)
        clear y_18
        have p315_18 : T_18.2.2 315 = some (.inr (17, [.ref 316, .ref 317, .ref 318])) := c_18.2.2.2.2.1
        have p319_18 : T_18.2.2 319 = some (.inr (17, [.ref 320, .ref 321, .ref 322])) := c_18.2.2.2.2.2
        have r_18 := c_18.1.1.1
        refine ks_aload_n dX16_plus_419 rfl rfl ?_
        refine ks_getf (T := TX16) (kf := 15) kx_2383 rfl in_X16 cl_X16 (by decide) o_18 rfl dX16_plus_420 rfl ?_
        refine ks_aload_n dX16_plus_423 rfl rfl ?_
        refine ks_getN (T := TX14) (kf := 0) kx_1793 rfl in_X14 cl_X14 (by decide) p315_18 rfl dX16_plus_424 rfl ?_
        refine ks_aload_n dX16_plus_427 rfl rfl ?_
        refine ks_getf (T := TX16) (kf := 23) kx_2391 rfl in_X16 cl_X16 (by decide) o_18 rfl dX16_plus_428 rfl ?_
        refine ks_aload_n dX16_plus_431 rfl rfl ?_
        refine ks_getN (T := TX14) (kf := 0) kx_1793 rfl in_X14 cl_X14 (by decide) p315_18 rfl dX16_plus_432 rfl ?_
        refine ks_callV (n := 3) (M' := mX15_subtract) (c_fs (d := (d + 1)) (a := 316) (b := 324) (t := 316) c_18 (by decide) (by decide) (by decide)) r_18 cl_X15 rfl kx_2298 kx_2299 kx_2300 kx_33 kx_2301 (by decide +kernel) rfl (by decide) (Nat.le_of_ble_eq_true rfl) rfl dX16_plus_435 rfl (fun z_19 T_19 y_19 => ?_)
        obtain ⟨rfl, u_19, y_19⟩ := y_19
        obtain ⟨v_19, e_19⟩ : ∃ v, v = sM v_18 v_14 := ⟨_, rfl⟩
        have c_19 : cvR T_19 (va_up (va_up (va_up (va_up (va_up (va_up (va_up (va_up (va_up (va_up (va_up (va_up (va_up (va_up (va_up (va_up (va_up (va_up (va_up R 323 v_1) 324 v_2) 323 v_3) 323 v_4) 325 v_5) 326 v_6) 325 v_7) 325 v_8) 326 v_9) 325 v_10) 318 v_11) 318 v_12) 327 v_13) 324 v_14) 327 v_15) 316 v_16) 316 v_17) 316 v_18) 316 v_19) := by rw [e_19]; exact y_19
        have o_19 := u_19.at o_18 (by decide)
        clear y_19
        have p315_19 : T_19.2.2 315 = some (.inr (17, [.ref 316, .ref 317, .ref 318])) := c_19.2.2.2.2.1
        have p319_19 : T_19.2.2 319 = some (.inr (17, [.ref 320, .ref 321, .ref 322])) := c_19.2.2.2.2.2
        have r_19 := c_19.1.1.1
        refine ks_aload_n dX16_plus_438 rfl rfl ?_
        refine ks_getf (T := TX16) (kf := 15) kx_2383 rfl in_X16 cl_X16 (by decide) o_19 rfl dX16_plus_439 rfl ?_
        refine ks_aload_n dX16_plus_442 rfl rfl ?_
        refine ks_getf (T := TX16) (kf := 23) kx_2391 rfl in_X16 cl_X16 (by decide) o_19 rfl dX16_plus_443 rfl ?_
        refine ks_aload_n dX16_plus_446 rfl rfl ?_
        refine ks_getN (T := TX14) (kf := 0) kx_1793 rfl in_X14 cl_X14 (by decide) p315_19 rfl dX16_plus_447 rfl ?_
        refine ks_aload_n dX16_plus_450 rfl rfl ?_
        refine ks_getf (T := TX16) (kf := 23) kx_2391 rfl in_X16 cl_X16 (by decide) o_19 rfl dX16_plus_451 rfl ?_
        refine ks_callV (n := 3) (M' := mX15_subtract) (c_fs (d := (d + 1)) (a := 324) (b := 316) (t := 324) c_19 (by decide) (by decide) (by decide)) r_19 cl_X15 rfl kx_2298 kx_2299 kx_2300 kx_33 kx_2301 (by decide +kernel) rfl (by decide) (Nat.le_of_ble_eq_true rfl) rfl dX16_plus_454 rfl (fun z_20 T_20 y_20 => ?_)
        obtain ⟨rfl, u_20, y_20⟩ := y_20
        obtain ⟨v_20, e_20⟩ : ∃ v, v = sM v_14 v_19 := ⟨_, rfl⟩
        have c_20 : cvR T_20 (va_up (va_up (va_up (va_up (va_up (va_up (va_up (va_up (va_up (va_up (va_up (va_up (va_up (va_up (va_up (va_up (va_up (va_up (va_up (va_up R 323 v_1) 324 v_2) 323 v_3) 323 v_4) 325 v_5) 326 v_6) 325 v_7) 325 v_8) 326 v_9) 325 v_10) 318 v_11) 318 v_12) 327 v_13) 324 v_14) 327 v_15) 316 v_16) 316 v_17) 316 v_18) 316 v_19) 324 v_20) := by rw [e_20]; exact y_20
        have o_20 := u_20.at o_19 (by decide)
        clear y_20
        have p315_20 : T_20.2.2 315 = some (.inr (17, [.ref 316, .ref 317, .ref 318])) := c_20.2.2.2.2.1
        have p319_20 : T_20.2.2 319 = some (.inr (17, [.ref 320, .ref 321, .ref 322])) := c_20.2.2.2.2.2
        have r_20 := c_20.1.1.1
        refine ks_aload_n dX16_plus_457 rfl rfl ?_
        refine ks_getf (T := TX16) (kf := 15) kx_2383 rfl in_X16 cl_X16 (by decide) o_20 rfl dX16_plus_458 rfl ?_
        refine ks_aload_n dX16_plus_461 rfl rfl ?_
        refine ks_getf (T := TX16) (kf := 24) kx_2392 rfl in_X16 cl_X16 (by decide) o_20 rfl dX16_plus_462 rfl ?_
        refine ks_aload_n dX16_plus_465 rfl rfl ?_
        refine ks_getf (T := TX16) (kf := 23) kx_2391 rfl in_X16 cl_X16 (by decide) o_20 rfl dX16_plus_466 rfl ?_
        refine ks_aload_n dX16_plus_469 rfl rfl ?_
        refine ks_getN (T := TX14) (kf := 1) kx_1795 rfl in_X14 cl_X14 (by decide) p315_20 rfl dX16_plus_470 rfl ?_
        refine ks_callV (n := 3) (M' := mX15_multiply) (c_fm (d := (d + 1)) (a := 325) (b := 324) (t := 317) c_20 (by decide) (by decide) (by decide)) r_20 cl_X15 rfl kx_2285 kx_1922 kx_1923 kx_33 kx_1924 (by decide +kernel) rfl (by decide) (Nat.le_of_ble_eq_true rfl) rfl dX16_plus_473 rfl (fun z_21 T_21 y_21 => ?_)
        obtain ⟨rfl, u_21, y_21⟩ := y_21
        obtain ⟨v_21, e_21⟩ : ∃ v, v = mM v_10 v_20 := ⟨_, rfl⟩
        have c_21 : cvR T_21 (va_up (va_up (va_up (va_up (va_up (va_up (va_up (va_up (va_up (va_up (va_up (va_up (va_up (va_up (va_up (va_up (va_up (va_up (va_up (va_up (va_up R 323 v_1) 324 v_2) 323 v_3) 323 v_4) 325 v_5) 326 v_6) 325 v_7) 325 v_8) 326 v_9) 325 v_10) 318 v_11) 318 v_12) 327 v_13) 324 v_14) 327 v_15) 316 v_16) 316 v_17) 316 v_18) 316 v_19) 324 v_20) 317 v_21) := by rw [e_21]; exact y_21
        have o_21 := u_21.at o_20 (by decide)
        clear y_21
        have p315_21 : T_21.2.2 315 = some (.inr (17, [.ref 316, .ref 317, .ref 318])) := c_21.2.2.2.2.1
        have p319_21 : T_21.2.2 319 = some (.inr (17, [.ref 320, .ref 321, .ref 322])) := c_21.2.2.2.2.2
        have r_21 := c_21.1.1.1
        refine ks_aload_n dX16_plus_476 rfl rfl ?_
        refine ks_getf (T := TX16) (kf := 15) kx_2383 rfl in_X16 cl_X16 (by decide) o_21 rfl dX16_plus_477 rfl ?_
        refine ks_aload_n dX16_plus_480 rfl rfl ?_
        refine ks_getf (T := TX16) (kf := 22) kx_2390 rfl in_X16 cl_X16 (by decide) o_21 rfl dX16_plus_481 rfl ?_
        refine ks_aload_n dX16_plus_484 rfl rfl ?_
        refine ks_getf (T := TX16) (kf := 26) kx_2394 rfl in_X16 cl_X16 (by decide) o_21 rfl dX16_plus_485 rfl ?_
        refine ks_aload_n dX16_plus_488 rfl rfl ?_
        refine ks_getf (T := TX16) (kf := 22) kx_2390 rfl in_X16 cl_X16 (by decide) o_21 rfl dX16_plus_489 rfl ?_
        refine ks_callV (n := 3) (M' := mX15_multiply) (c_fm (d := (d + 1)) (a := 323) (b := 327) (t := 323) c_21 (by decide) (by decide) (by decide)) r_21 cl_X15 rfl kx_2285 kx_1922 kx_1923 kx_33 kx_1924 (by decide +kernel) rfl (by decide) (Nat.le_of_ble_eq_true rfl) rfl dX16_plus_492 rfl (fun z_22 T_22 y_22 => ?_)
        obtain ⟨rfl, u_22, y_22⟩ := y_22
        obtain ⟨v_22, e_22⟩ : ∃ v, v = mM v_4 v_15 := ⟨_, rfl⟩
        have c_22 : cvR T_22 (va_up (va_up (va_up (va_up (va_up (va_up (va_up (va_up (va_up (va_up (va_up (va_up (va_up (va_up (va_up (va_up (va_up (va_up (va_up (va_up (va_up (va_up R 323 v_1) 324 v_2) 323 v_3) 323 v_4) 325 v_5) 326 v_6) 325 v_7) 325 v_8) 326 v_9) 325 v_10) 318 v_11) 318 v_12) 327 v_13) 324 v_14) 327 v_15) 316 v_16) 316 v_17) 316 v_18) 316 v_19) 324 v_20) 317 v_21) 323 v_22) := by rw [e_22]; exact y_22
        have o_22 := u_22.at o_21 (by decide)
        clear y_22
        have p315_22 : T_22.2.2 315 = some (.inr (17, [.ref 316, .ref 317, .ref 318])) := c_22.2.2.2.2.1
        have p319_22 : T_22.2.2 319 = some (.inr (17, [.ref 320, .ref 321, .ref 322])) := c_22.2.2.2.2.2
        have r_22 := c_22.1.1.1
        refine ks_aload_n dX16_plus_495 rfl rfl ?_
        refine ks_getf (T := TX16) (kf := 15) kx_2383 rfl in_X16 cl_X16 (by decide) o_22 rfl dX16_plus_496 rfl ?_
        refine ks_aload_n dX16_plus_499 rfl rfl ?_
        refine ks_getN (T := TX14) (kf := 1) kx_1795 rfl in_X14 cl_X14 (by decide) p315_22 rfl dX16_plus_500 rfl ?_
        refine ks_aload_n dX16_plus_503 rfl rfl ?_
        refine ks_getf (T := TX16) (kf := 22) kx_2390 rfl in_X16 cl_X16 (by decide) o_22 rfl dX16_plus_504 rfl ?_
        refine ks_aload_n dX16_plus_507 rfl rfl ?_
        refine ks_getN (T := TX14) (kf := 1) kx_1795 rfl in_X14 cl_X14 (by decide) p315_22 rfl dX16_plus_508 rfl ?_
        refine ks_callV (n := 3) (M' := mX15_subtract) (c_fs (d := (d + 1)) (a := 317) (b := 323) (t := 317) c_22 (by decide) (by decide) (by decide)) r_22 cl_X15 rfl kx_2298 kx_2299 kx_2300 kx_33 kx_2301 (by decide +kernel) rfl (by decide) (Nat.le_of_ble_eq_true rfl) rfl dX16_plus_511 rfl (fun z_23 T_23 y_23 => ?_)
        obtain ⟨rfl, u_23, y_23⟩ := y_23
        obtain ⟨v_23, e_23⟩ : ∃ v, v = sM v_21 v_22 := ⟨_, rfl⟩
        have c_23 : cvR T_23 (va_up (va_up (va_up (va_up (va_up (va_up (va_up (va_up (va_up (va_up (va_up (va_up (va_up (va_up (va_up (va_up (va_up (va_up (va_up (va_up (va_up (va_up (va_up R 323 v_1) 324 v_2) 323 v_3) 323 v_4) 325 v_5) 326 v_6) 325 v_7) 325 v_8) 326 v_9) 325 v_10) 318 v_11) 318 v_12) 327 v_13) 324 v_14) 327 v_15) 316 v_16) 316 v_17) 316 v_18) 316 v_19) 324 v_20) 317 v_21) 323 v_22) 317 v_23) := by rw [e_23]; exact y_23
        have o_23 := u_23.at o_22 (by decide)
        clear y_23
        have p315_23 : T_23.2.2 315 = some (.inr (17, [.ref 316, .ref 317, .ref 318])) := c_23.2.2.2.2.1
        have p319_23 : T_23.2.2 319 = some (.inr (17, [.ref 320, .ref 321, .ref 322])) := c_23.2.2.2.2.2
        have r_23 := c_23.1.1.1
        refine ks_ret rfl dX16_plus_514 ?_
        refine ⟨rfl, (((((((((((((((((((((((ks_up.rf _ _).trans (u_1.mono (by decide))).trans (u_2.mono (by decide))).trans (u_3.mono (by decide))).trans (u_4.mono (by decide))).trans (u_5.mono (by decide))).trans (u_6.mono (by decide))).trans (u_7.mono (by decide))).trans (u_8.mono (by decide))).trans (u_9.mono (by decide))).trans (u_10.mono (by decide))).trans (u_11.mono (by decide))).trans (u_12.mono (by decide))).trans (u_13.mono (by decide))).trans (u_14.mono (by decide))).trans (u_15.mono (by decide))).trans (u_16.mono (by decide))).trans (u_17.mono (by decide))).trans (u_18.mono (by decide))).trans (u_19.mono (by decide))).trans (u_20.mono (by decide))).trans (u_21.mono (by decide))).trans (u_22.mono (by decide))).trans (u_23.mono (by decide)), _, c_23, ?_, fun k hk hk2 => ?_⟩
        · show (v_19, v_23, v_12) = _
          unfold rfA
          rw [if_neg q0, if_neg p0, if_neg d0, ← eH, ← eK, ← eU, ← eV]
          clear eH eK eU eV
          refine Prod.ext ?_ (Prod.ext ?_ ?_)
          · show v_19 = adX _ _ _
            unfold adX
            rw [e_19, e_18, e_17, e_16, e_15, e_14, e_13]
          · show v_23 = adY _ _ _ _
            unfold adY adX
            rw [e_23, e_22, e_21, e_20, e_19, e_18, e_17, e_16, e_15, e_14, e_13, mM_comm v_10]
          · show v_12 = adZ _ _ _
            unfold adZ
            rw [e_12, e_11]
            rfl
        · rw [va_up_ne _ _ (by omega), va_up_ne _ _ (by omega), va_up_ne _ _ (by omega), va_up_ne _ _ (by omega), va_up_ne _ _ (by omega), va_up_ne _ _ (by omega), va_up_ne _ _ (by omega), va_up_ne _ _ (by omega), va_up_ne _ _ (by omega), va_up_ne _ _ (by omega), va_up_ne _ _ (by omega), va_up_ne _ _ (by omega), va_up_ne _ _ (by omega), va_up_ne _ _ (by omega), va_up_ne _ _ (by omega), va_up_ne _ _ (by omega), va_up_ne _ _ (by omega), va_up_ne _ _ (by omega), va_up_ne _ _ (by omega), va_up_ne _ _ (by omega), va_up_ne _ _ (by omega), va_up_ne _ _ (by omega), va_up_ne _ _ (by omega)]
      · have d0 : ptH (ptR R 316) (ptR R 320) = 0 := eH ▸ (of_decide_eq_true h6 : v_9 = 0)
        refine ks_aload_n dX16_plus_227 rfl rfl ?_
        refine ks_getf (T := TX16) (kf := 24) kx_2392 rfl in_X16 cl_X16 (by decide) o_10 rfl dX16_plus_228 rfl ?_
        refine ks_callS (n := 1) (M' := mX15_isZero) (c_fz (d := d + 2) (a := 325) c_10 (by decide)) kx_2306 kx_2307 kx_33 kx_2308 (by decide +kernel) rfl (by decide) (Nat.le_of_ble_eq_true rfl) rfl dX16_plus_231 rfl (fun z5 T5 y5 => ?_)
        obtain ⟨rfl, hT5⟩ := y5
        obtain rfl := hT5.symm
        refine ks_if_eqZ (tgt := 245) dX16_plus_234 (by decide) rfl (fun h5 => ?_) (fun h5 => ?_)
        · have k0 : ¬ ptK (ptR R 316) (ptR R 320) = 0 := eK ▸ (of_decide_eq_false h5 : ¬ v_10 = 0)
          obtain ⟨gz, ez, -, -⟩ := (c_10.2.1 318 (by decide)).1
          refine ks_iconst (x := nI 0) dX16_plus_245 (by decide) rfl ?_
          refine ks_istore_n dX16_plus_246 (by decide) rfl ?_
          refine ks_sub [(3, _), (0, _), (1, _), (2, _)] rfl ?_
          refine ks_iload_n dX16_plus_247 rfl rfl ?_
          refine ks_bipush (x := nI 8) dX16_plus_248 (by decide) rfl ?_
          refine ks_icmp_geN (tgt := 266) (by decide) (by decide) dX16_plus_250 (by decide) rfl (fun h => absurd h (by decide)) (fun _ => ?_)
          refine ks_aload_n dX16_plus_253 rfl rfl ?_
          refine ks_getN (T := TX14) (kf := 2) kx_1797 rfl in_X14 cl_X14 (by decide) p315_10 rfl dX16_plus_254 rfl ?_
          refine ks_iload_n dX16_plus_257 rfl rfl ?_
          refine ks_iconst (x := nI 0) dX16_plus_258 (by decide) rfl ?_
          refine ks_iastNN (i := 0) (v := 0) (by decide) ez (by decide) (by decide) dX16_plus_259 rfl ?_
          refine ks_incN (c := 1) (e := 1) dX16_plus_260 rfl (by decide) rfl (by decide) rfl ?_
          refine ks_sub [(3, _), (0, _), (1, _), (2, _)] rfl ?_
          refine ks_goto (tgt := 247) dX16_plus_263 (by decide) ?_
          refine ks_iload_n dX16_plus_247 rfl rfl ?_
          refine ks_bipush (x := nI 8) dX16_plus_248 (by decide) rfl ?_
          refine ks_icmp_geN (tgt := 266) (by decide) (by decide) dX16_plus_250 (by decide) rfl (fun h => absurd h (by decide)) (fun _ => ?_)
          refine ks_aload_n dX16_plus_253 rfl rfl ?_
          refine ks_getN (T := TX14) (kf := 2) kx_1797 rfl in_X14 cl_X14 (by decide) ((ks_set_ne _ _ (by decide)).trans p315_10) rfl dX16_plus_254 rfl ?_
          refine ks_iload_n dX16_plus_257 rfl rfl ?_
          refine ks_iconst (x := nI 0) dX16_plus_258 (by decide) rfl ?_
          refine ks_iastNN (i := 1) (v := 0) (by decide) (ks_set_same _ _ _) (by decide) (by decide) dX16_plus_259 rfl ?_
          refine ks_incN (c := 1) (e := 2) dX16_plus_260 rfl (by decide) rfl (by decide) rfl ?_
          refine ks_sub [(3, _), (0, _), (1, _), (2, _)] rfl ?_
          refine ks_goto (tgt := 247) dX16_plus_263 (by decide) ?_
          refine ks_iload_n dX16_plus_247 rfl rfl ?_
          refine ks_bipush (x := nI 8) dX16_plus_248 (by decide) rfl ?_
          refine ks_icmp_geN (tgt := 266) (by decide) (by decide) dX16_plus_250 (by decide) rfl (fun h => absurd h (by decide)) (fun _ => ?_)
          refine ks_aload_n dX16_plus_253 rfl rfl ?_
          refine ks_getN (T := TX14) (kf := 2) kx_1797 rfl in_X14 cl_X14 (by decide) ((ks_set_ne _ _ (by decide)).trans ((ks_set_ne _ _ (by decide)).trans p315_10)) rfl dX16_plus_254 rfl ?_
          refine ks_iload_n dX16_plus_257 rfl rfl ?_
          refine ks_iconst (x := nI 0) dX16_plus_258 (by decide) rfl ?_
          refine ks_iastNN (i := 2) (v := 0) (by decide) (ks_set_same _ _ _) (by decide) (by decide) dX16_plus_259 rfl ?_
          refine ks_incN (c := 1) (e := 3) dX16_plus_260 rfl (by decide) rfl (by decide) rfl ?_
          refine ks_sub [(3, _), (0, _), (1, _), (2, _)] rfl ?_
          refine ks_goto (tgt := 247) dX16_plus_263 (by decide) ?_
          refine ks_iload_n dX16_plus_247 rfl rfl ?_
          refine ks_bipush (x := nI 8) dX16_plus_248 (by decide) rfl ?_
          refine ks_icmp_geN (tgt := 266) (by decide) (by decide) dX16_plus_250 (by decide) rfl (fun h => absurd h (by decide)) (fun _ => ?_)
          refine ks_aload_n dX16_plus_253 rfl rfl ?_
          refine ks_getN (T := TX14) (kf := 2) kx_1797 rfl in_X14 cl_X14 (by decide) ((ks_set_ne _ _ (by decide)).trans ((ks_set_ne _ _ (by decide)).trans ((ks_set_ne _ _ (by decide)).trans p315_10))) rfl dX16_plus_254 rfl ?_
          refine ks_iload_n dX16_plus_257 rfl rfl ?_
          refine ks_iconst (x := nI 0) dX16_plus_258 (by decide) rfl ?_
          refine ks_iastNN (i := 3) (v := 0) (by decide) (ks_set_same _ _ _) (by decide) (by decide) dX16_plus_259 rfl ?_
          refine ks_incN (c := 1) (e := 4) dX16_plus_260 rfl (by decide) rfl (by decide) rfl ?_
          refine ks_sub [(3, _), (0, _), (1, _), (2, _)] rfl ?_
          refine ks_goto (tgt := 247) dX16_plus_263 (by decide) ?_
          refine ks_iload_n dX16_plus_247 rfl rfl ?_
          refine ks_bipush (x := nI 8) dX16_plus_248 (by decide) rfl ?_
          refine ks_icmp_geN (tgt := 266) (by decide) (by decide) dX16_plus_250 (by decide) rfl (fun h => absurd h (by decide)) (fun _ => ?_)
          refine ks_aload_n dX16_plus_253 rfl rfl ?_
          refine ks_getN (T := TX14) (kf := 2) kx_1797 rfl in_X14 cl_X14 (by decide) ((ks_set_ne _ _ (by decide)).trans ((ks_set_ne _ _ (by decide)).trans ((ks_set_ne _ _ (by decide)).trans ((ks_set_ne _ _ (by decide)).trans p315_10)))) rfl dX16_plus_254 rfl ?_
          refine ks_iload_n dX16_plus_257 rfl rfl ?_
          refine ks_iconst (x := nI 0) dX16_plus_258 (by decide) rfl ?_
          refine ks_iastNN (i := 4) (v := 0) (by decide) (ks_set_same _ _ _) (by decide) (by decide) dX16_plus_259 rfl ?_
          refine ks_incN (c := 1) (e := 5) dX16_plus_260 rfl (by decide) rfl (by decide) rfl ?_
          refine ks_sub [(3, _), (0, _), (1, _), (2, _)] rfl ?_
          refine ks_goto (tgt := 247) dX16_plus_263 (by decide) ?_
          refine ks_iload_n dX16_plus_247 rfl rfl ?_
          refine ks_bipush (x := nI 8) dX16_plus_248 (by decide) rfl ?_
          refine ks_icmp_geN (tgt := 266) (by decide) (by decide) dX16_plus_250 (by decide) rfl (fun h => absurd h (by decide)) (fun _ => ?_)
          refine ks_aload_n dX16_plus_253 rfl rfl ?_
          refine ks_getN (T := TX14) (kf := 2) kx_1797 rfl in_X14 cl_X14 (by decide) ((ks_set_ne _ _ (by decide)).trans ((ks_set_ne _ _ (by decide)).trans ((ks_set_ne _ _ (by decide)).trans ((ks_set_ne _ _ (by decide)).trans ((ks_set_ne _ _ (by decide)).trans p315_10))))) rfl dX16_plus_254 rfl ?_
          refine ks_iload_n dX16_plus_257 rfl rfl ?_
          refine ks_iconst (x := nI 0) dX16_plus_258 (by decide) rfl ?_
          refine ks_iastNN (i := 5) (v := 0) (by decide) (ks_set_same _ _ _) (by decide) (by decide) dX16_plus_259 rfl ?_
          refine ks_incN (c := 1) (e := 6) dX16_plus_260 rfl (by decide) rfl (by decide) rfl ?_
          refine ks_sub [(3, _), (0, _), (1, _), (2, _)] rfl ?_
          refine ks_goto (tgt := 247) dX16_plus_263 (by decide) ?_
          refine ks_iload_n dX16_plus_247 rfl rfl ?_
          refine ks_bipush (x := nI 8) dX16_plus_248 (by decide) rfl ?_
          refine ks_icmp_geN (tgt := 266) (by decide) (by decide) dX16_plus_250 (by decide) rfl (fun h => absurd h (by decide)) (fun _ => ?_)
          refine ks_aload_n dX16_plus_253 rfl rfl ?_
          refine ks_getN (T := TX14) (kf := 2) kx_1797 rfl in_X14 cl_X14 (by decide) ((ks_set_ne _ _ (by decide)).trans ((ks_set_ne _ _ (by decide)).trans ((ks_set_ne _ _ (by decide)).trans ((ks_set_ne _ _ (by decide)).trans ((ks_set_ne _ _ (by decide)).trans ((ks_set_ne _ _ (by decide)).trans p315_10)))))) rfl dX16_plus_254 rfl ?_
          refine ks_iload_n dX16_plus_257 rfl rfl ?_
          refine ks_iconst (x := nI 0) dX16_plus_258 (by decide) rfl ?_
          refine ks_iastNN (i := 6) (v := 0) (by decide) (ks_set_same _ _ _) (by decide) (by decide) dX16_plus_259 rfl ?_
          refine ks_incN (c := 1) (e := 7) dX16_plus_260 rfl (by decide) rfl (by decide) rfl ?_
          refine ks_sub [(3, _), (0, _), (1, _), (2, _)] rfl ?_
          refine ks_goto (tgt := 247) dX16_plus_263 (by decide) ?_
          refine ks_iload_n dX16_plus_247 rfl rfl ?_
          refine ks_bipush (x := nI 8) dX16_plus_248 (by decide) rfl ?_
          refine ks_icmp_geN (tgt := 266) (by decide) (by decide) dX16_plus_250 (by decide) rfl (fun h => absurd h (by decide)) (fun _ => ?_)
          refine ks_aload_n dX16_plus_253 rfl rfl ?_
          refine ks_getN (T := TX14) (kf := 2) kx_1797 rfl in_X14 cl_X14 (by decide) ((ks_set_ne _ _ (by decide)).trans ((ks_set_ne _ _ (by decide)).trans ((ks_set_ne _ _ (by decide)).trans ((ks_set_ne _ _ (by decide)).trans ((ks_set_ne _ _ (by decide)).trans ((ks_set_ne _ _ (by decide)).trans ((ks_set_ne _ _ (by decide)).trans p315_10))))))) rfl dX16_plus_254 rfl ?_
          refine ks_iload_n dX16_plus_257 rfl rfl ?_
          refine ks_iconst (x := nI 0) dX16_plus_258 (by decide) rfl ?_
          refine ks_iastNN (i := 7) (v := 0) (by decide) (ks_set_same _ _ _) (by decide) (by decide) dX16_plus_259 rfl ?_
          refine ks_incN (c := 1) (e := 8) dX16_plus_260 rfl (by decide) rfl (by decide) rfl ?_
          refine ks_sub [(3, _), (0, _), (1, _), (2, _)] rfl ?_
          refine ks_goto (tgt := 247) dX16_plus_263 (by decide) ?_
          refine ks_iload_n dX16_plus_247 rfl rfl ?_
          refine ks_bipush (x := nI 8) dX16_plus_248 (by decide) rfl ?_
          refine ks_icmp_geN (tgt := 266) (by decide) (by decide) dX16_plus_250 (by decide) rfl (fun _ => ?_) (fun h => absurd h (by decide))
          refine ks_ret rfl dX16_plus_266 ?_
          refine ⟨rfl, (((((((((((ks_up.rf _ _).trans (u_1.mono (by decide))).trans (u_2.mono (by decide))).trans (u_3.mono (by decide))).trans (u_4.mono (by decide))).trans (u_5.mono (by decide))).trans (u_6.mono (by decide))).trans (u_7.mono (by decide))).trans (u_8.mono (by decide))).trans (u_9.mono (by decide))).trans (u_10.mono (by decide))).trans (up8.mono (by decide)), _, c_10.z (by decide) up8 (ks_set_same _ _ _) z8, ?_, fun k hk hk2 => ?_⟩
          · unfold rfA
            rw [if_neg q0, if_neg p0, if_pos d0, if_neg k0]
            rfl
          · rw [va_up_ne _ _ (by omega), va_up_ne _ _ (by omega), va_up_ne _ _ (by omega), va_up_ne _ _ (by omega), va_up_ne _ _ (by omega), va_up_ne _ _ (by omega), va_up_ne _ _ (by omega), va_up_ne _ _ (by omega), va_up_ne _ _ (by omega), va_up_ne _ _ (by omega), va_up_ne _ _ (by omega)]
        · have k0 : ptK (ptR R 316) (ptR R 320) = 0 := eK ▸ (of_decide_eq_true h5 : v_10 = 0)
          refine ks_aload_n dX16_plus_237 rfl rfl ?_
          refine ks_aload_n dX16_plus_238 rfl rfl ?_
          refine ks_callV (n := 1) (M' := mX16_doubled) (c_md_doubled315 (d := d) o_10 c_10) o_10 cl_X16 rfl kx_2313 kx_2315 kxp_116 kx_30 kx_2316 (by decide +kernel) rfl (by decide) (Nat.le_of_ble_eq_true rfl) rfl dX16_plus_239 rfl (fun z4 T4 y4 => ?_)
          obtain ⟨rfl, u4, R4, c4, e4, k4⟩ := y4
          refine ks_goto (tgt := 266) dX16_plus_242 (by decide) ?_
          refine ks_ret rfl dX16_plus_266 ?_
          refine ⟨rfl, (((((((((((ks_up.rf _ _).trans (u_1.mono (by decide))).trans (u_2.mono (by decide))).trans (u_3.mono (by decide))).trans (u_4.mono (by decide))).trans (u_5.mono (by decide))).trans (u_6.mono (by decide))).trans (u_7.mono (by decide))).trans (u_8.mono (by decide))).trans (u_9.mono (by decide))).trans (u_10.mono (by decide))).trans u4, R4, c4, ?_, fun k hk hk2 => ?_⟩
          · rw [e4]
            unfold rfA
            rw [if_neg q0, if_neg p0, if_pos d0, if_pos k0]
            rfl
          · rw [k4 k hk hk2]
            rw [va_up_ne _ _ (by omega), va_up_ne _ _ (by omega), va_up_ne _ _ (by omega), va_up_ne _ _ (by omega), va_up_ne _ _ (by omega), va_up_ne _ _ (by omega), va_up_ne _ _ (by omega), va_up_ne _ _ (by omega), va_up_ne _ _ (by omega), va_up_ne _ _ (by omega)]
    · refine ks_aload_n dX16_plus_21 rfl rfl ?_
      refine ks_aload_n dX16_plus_22 rfl rfl ?_
      refine ks_callV (n := 1) (M' := mX14_take) (c_pt_take319 (d := d + 1) hC) p315_0 cl_X14 rfl kx_2321 kx_2322 kx_2323 kx_31 kx_2324 (by decide +kernel) rfl (by decide) (Nat.le_of_ble_eq_true rfl) rfl dX16_plus_23 rfl (fun z7 T7 y7 => ?_)
      obtain ⟨rfl, u7, c7⟩ := y7
      refine ks_ret rfl dX16_plus_26 ?_
      refine ⟨rfl, u7.mono (by decide), _, c7, ?_, fun k hk hk2 => ?_⟩
      · unfold rfA
        rw [if_neg q0, if_pos (show (ptR R 316).2.2 = 0 from of_decide_eq_true h8)]
        rfl
      · rw [va_up_ne _ _ (by omega), va_up_ne _ _ (by omega), va_up_ne _ _ (by omega)]
  · refine ks_ret rfl dX16_plus_10 ?_
    refine ⟨rfl, ks_up.rf _ _, R, hC, ?_, fun _ _ _ => rfl⟩
    unfold rfA
    rw [if_pos (show (ptR R 320).2.2 = 0 from of_decide_eq_true h9)]
