/-! THE REFERENCE: a key read -/
theorem fb_be (g : Nat → Nat) (a : Nat) : dg 256 (fbF true g a) 32 = beN g a := dg_congr (fun k _ => if_pos rfl)
theorem c_fe {l : Launch} {G : ks_G} {d : Nat} {S : ks_S} {R : Nat → Nat} {a b : Nat} (h : cvR S R) (ha : a ∈ rwL) (hb : b ∈ rwL) : ks_P l G yX15_same mX15_same (d + 1) [.ref a, .ref b] S (fun z S' => z = some (.int (ks_bo (decide (R a = R b)))) ∧ S' = S) := by
  have ka := rwL_b a ha
  have kb := rwL_b b hb
  have kB : 600 < ks_B := by decide
  refine (c_rg_same (h.2.1 a ha).1 (h.2.1 b hb).1 (by omega) (by omega)).mono ?_
  rintro z S' ⟨rfl, rfl⟩
  rw [decide_eq_decide.mpr (fx_inj (h.2.1 a ha).2 (h.2.1 b hb).2)]
  exact ⟨rfl, rfl⟩
theorem c_fa7 {l : Launch} {G : ks_G} {d : Nat} {S : ks_S} {R : Nat → Nat} (h : cvR S R) (h7 : fX S 306 7) : ks_P l G yX15_add mX15_add (d + 1) [.ref 547, .ref 323, .ref 306, .ref 323] S (fun z S' => z = none ∧ ks_up S S' [552, 323] ∧ cvR S' (va_up R 323 (aM (R 323) 7))) := by
  have kB : 600 < ks_B := by decide
  refine (c_rg_add h.1.1.1 h.1.1.2.1 (by omega) (h.2.1 323 (by decide)).1 h7.1 (h.2.1 323 (by decide)).1 (by omega) (by omega) (fx_lt _) (fx_lt _)).mono ?_
  rintro z S' ⟨rfl, hu, hw⟩
  rw [fx_add] at hw
  exact ⟨rfl, hu.mono (fun x hx => List.mem_cons_of_mem _ hx), h.row (by decide) hu (fun x hx => by simp only [List.mem_cons, List.not_mem_nil, or_false] at hx; omega) (h.1.up hu (fun x hx => by simp only [List.mem_cons, List.not_mem_nil, or_false] at hx; omega)) ⟨hw, aM_lt _ _⟩⟩
theorem c_f1 {l : Launch} {G : ks_G} {d : Nat} {S : ks_S} {R : Nat → Nat} {t : Nat} (h : cvR S R) (ht : t ∈ rwL) : ks_P l G yX15_copy mX15_copy d [.ref 549, .ref t] S (fun z S' => z = none ∧ ks_up S S' [t] ∧ cvR S' (va_up R t 1)) := by
  have kt := rwL_b t ht
  have kB : 600 < ks_B := by decide
  refine (c_rg_copy h.1.2.1 (h.2.1 t ht).1 (by omega)).mono ?_
  rintro z S' ⟨rfl, hu, hw⟩
  rw [← Nat.one_mul (2 ^ 256)] at hw
  exact ⟨rfl, hu, h.row ht hu (fun x hx => by simp only [List.mem_cons, List.not_mem_nil, or_false] at hx; omega) (h.1.up hu (fun x hx => by simp only [List.mem_cons, List.not_mem_nil, or_false] at hx; omega)) ⟨hw, by decide⟩⟩
theorem rk_b {g : Nat → Nat} (h : g 0 = 2 ∨ g 0 = 3) : kb g 0 - nI 2 = nI (g 0 - 2) := by
  unfold kb
  rcases h with h | h <;> rw [h] <;> decide
theorem dg_par (g : Nat → Nat) : dg 4294967296 g 8 % 2 = g 0 % 2 := by rw [dg_c]; omega
abbrev rykS (g : Nat → Nat) (n : Nat) : Prop := n = 33 ∧ (g 0 = 2 ∨ g 0 = 3)
/-- whether the bytes are a key, and its second number -/
def rykF (g : Nat → Nat) (n : Nat) : Bool := decide (beN g 1 < pP) && (if rykS g n then decide (mM (rtM (ky3 (beN g 1))) (rtM (ky3 (beN g 1))) = ky3 (beN g 1)) else decide (n = 65 ∧ g 0 = 4 ∧ beN g 33 < pP ∧ ky3 (beN g 1) = mM (beN g 33) (beN g 33)))
def rykY (g : Nat → Nat) (n : Nat) : Nat := if rykS g n then (if rtM (ky3 (beN g 1)) % 2 = g 0 - 2 then rtM (ky3 (beN g 1)) else sM 0 (rtM (ky3 (beN g 1)))) else beN g 33
set_option maxRecDepth 100000 in
set_option maxHeartbeats 3200000 in
theorem l_readKeyS {l : Launch} {G : ks_G} {d : Nat} {S : ks_S} {V : Nat → Value} {R : Nat → Nat} {y N n X Y : Nat} {g : Nat → Nat} (hO : S.2.2 290 = some (rfE V)) (hC : cvR S R) (h7 : fX S 306 7) (hX : wA S 329 X) (hY : wA S 330 Y) (hy : S.2.2 y = some (kB N g)) (kg : kO g) (hn : n ≤ N) (hN : N < 2 ^ 28) (hyn : y < 291 ∨ 335 < y) (hyr : y < 547 ∨ 554 < y) (hs : rykS g n) : ks_X l G mX16_readKey (d + 3) 45 [(0, .ref 290), (1, .ref y), (2, .int (nI n)), (3, .int (nI 1))] [] S (fun z S' => z = some (.int (ks_bo (rykF g n))) ∧ ks_up S S' [552, 553, 554, 312, 313, 314, 323, 324, 325, 326, 329, 330] ∧ (∃ R', cvR S' R' ∧ (∀ k, k < 312 ∨ 314 < k → k < 323 → R' k = R k) ∧ (rykF g n = true → ptR R' 312 = (beN g 1, rykY g n, 1))) ∧ (∃ X, wA S' 329 X) ∧ (∃ Y, wA S' 330 Y)) := by
  have n33 : 33 ≤ n := by unfold rykS at hs; omega
  obtain ⟨rt, ert⟩ : ∃ v, v = rtM (ky3 (beN g 1)) := ⟨_, rfl⟩
  have eF : rykF g n = (decide (beN g 1 < pP) && decide (mM rt rt = ky3 (beN g 1))) := by unfold rykF; rw [if_pos hs, ← ert]
  have eY : rykY g n = if rt % 2 = g 0 - 2 then rt else sM 0 rt := by unfold rykY; rw [if_pos hs, ← ert]
  rw [eF, eY]
  clear eF eY
  have p311_0 : S.2.2 311 = some (.inr (17, [.ref 312, .ref 313, .ref 314])) := hC.2.2.2.1
  have r_0 := hC.1.1.1
  refine ks_aload_n dX16_readKey_45 rfl rfl ?_
  refine ks_iconst (x := nI 1) dX16_readKey_46 (by decide) rfl ?_
  refine ks_iconst (x := nI 1) dX16_readKey_47 (by decide) rfl ?_
  refine ks_aload_n dX16_readKey_48 rfl rfl ?_
  refine ks_getf (T := TX16) (kf := 28) kx_2396 rfl in_X16 cl_X16 (by decide) hO rfl dX16_readKey_49 rfl ?_
  refine ks_callS (n := 4) (M' := mX16_fromBytes) (c_md_fromH (d := d + 2) hy kg (by omega) hN hX (by decide)) kx_2043 kx_2044 kx_30 kx_2045 (by decide +kernel) rfl (by decide) (Nat.le_of_ble_eq_true rfl) rfl dX16_readKey_52 rfl (fun z_1 T_1 y_1 => ?_)
  obtain ⟨rfl, u_1, x_1⟩ := y_1
  rw [fb_be] at x_1
  have o_1 := u_1.at hO (by decide)
  have c_1 := hC.up u_1 (by decide)
  have p311_1 : T_1.2.2 311 = some (.inr (17, [.ref 312, .ref 313, .ref 314])) := c_1.2.2.2.1
  have r_1 := c_1.1.1.1
  refine ks_aload_n dX16_readKey_55 rfl rfl ?_
  refine ks_getf (T := TX16) (kf := 28) kx_2396 rfl in_X16 cl_X16 (by decide) o_1 rfl dX16_readKey_56 rfl ?_
  refine ks_aload_n dX16_readKey_59 rfl rfl ?_
  refine ks_getf (T := TX16) (kf := 15) kx_2383 rfl in_X16 cl_X16 (by decide) o_1 rfl dX16_readKey_60 rfl ?_
  refine ks_getN (T := TX15) (kf := 0) kx_1879 rfl in_X15 cl_X15 (by decide) r_1 rfl dX16_readKey_63 rfl ?_
  refine ks_callS (n := 2) (M' := mX15_compare) (c_rg_compare (d := d + 2) x_1 c_1.1.1.2.1 (by decide) (by decide)) kx_2035 kx_1870 kx_33 kx_1871 (by decide +kernel) rfl (by decide) (Nat.le_of_ble_eq_true rfl) rfl dX16_readKey_66 rfl (fun z9 T9 y9 => ?_)
  obtain ⟨rfl, hT9⟩ := y9
  obtain rfl := hT9.symm
  refine ks_if_lt (tgt := 74) dX16_readKey_69 (by decide) rfl (fun h9 => ?_) (fun h9 => ?_)
  · have hl : beN g 1 < pP := cmpN_lt.mp h9
    rw [decide_eq_true hl, Bool.true_and]
    refine ks_aload_n dX16_readKey_74 rfl rfl ?_
    refine ks_getf (T := TX16) (kf := 15) kx_2383 rfl in_X16 cl_X16 (by decide) o_1 rfl dX16_readKey_75 rfl ?_
    refine ks_aload_n dX16_readKey_78 rfl rfl ?_
    refine ks_getf (T := TX16) (kf := 28) kx_2396 rfl in_X16 cl_X16 (by decide) o_1 rfl dX16_readKey_79 rfl ?_
    refine ks_aload_n dX16_readKey_82 rfl rfl ?_
    refine ks_getf (T := TX16) (kf := 19) kx_2387 rfl in_X16 cl_X16 (by decide) o_1 rfl dX16_readKey_83 rfl ?_
    refine ks_getN (T := TX14) (kf := 0) kx_1793 rfl in_X14 cl_X14 (by decide) p311_1 rfl dX16_readKey_86 rfl ?_
    refine ks_callV (n := 2) (M' := mX15_enter) (c_fen (d := d) (a := 329) (t := 312) c_1 x_1 (by decide) (by decide)) r_1 cl_X15 rfl kx_1917 kx_1918 kx_1919 kx_33 kx_1920 (by decide +kernel) rfl (by decide) (Nat.le_of_ble_eq_true rfl) rfl dX16_readKey_89 rfl (fun z_2 T_2 y_2 => ?_)
    obtain ⟨rfl, u_2, y_2⟩ := y_2
    obtain ⟨v_2, e_2⟩ : ∃ v, v = beN g 1 % pP := ⟨_, rfl⟩
    have c_2 : cvR T_2 (va_up R 312 v_2) := by rw [e_2]; exact y_2
    have o_2 := u_2.at o_1 (by decide)
    clear y_2
    have p311_2 : T_2.2.2 311 = some (.inr (17, [.ref 312, .ref 313, .ref 314])) := c_2.2.2.2.1
    have r_2 := c_2.1.1.1
    rw [Nat.mod_eq_of_lt hl] at e_2
    have s_2 := h7.up u_1 (by decide) |>.up u_2 (by decide)
    refine ks_aload_n dX16_readKey_92 rfl rfl ?_
    refine ks_getf (T := TX16) (kf := 15) kx_2383 rfl in_X16 cl_X16 (by decide) o_2 rfl dX16_readKey_93 rfl ?_
    refine ks_aload_n dX16_readKey_96 rfl rfl ?_
    refine ks_getf (T := TX16) (kf := 19) kx_2387 rfl in_X16 cl_X16 (by decide) o_2 rfl dX16_readKey_97 rfl ?_
    refine ks_getN (T := TX14) (kf := 0) kx_1793 rfl in_X14 cl_X14 (by decide) p311_2 rfl dX16_readKey_100 rfl ?_
    refine ks_aload_n dX16_readKey_103 rfl rfl ?_
    refine ks_getf (T := TX16) (kf := 19) kx_2387 rfl in_X16 cl_X16 (by decide) o_2 rfl dX16_readKey_104 rfl ?_
    refine ks_getN (T := TX14) (kf := 0) kx_1793 rfl in_X14 cl_X14 (by decide) p311_2 rfl dX16_readKey_107 rfl ?_
    refine ks_aload_n dX16_readKey_110 rfl rfl ?_
    refine ks_getf (T := TX16) (kf := 22) kx_2390 rfl in_X16 cl_X16 (by decide) o_2 rfl dX16_readKey_111 rfl ?_
    refine ks_callV (n := 3) (M' := mX15_multiply) (c_fm (d := (d + 1)) (a := 312) (b := 312) (t := 323) c_2 (by decide) (by decide) (by decide)) r_2 cl_X15 rfl kx_2285 kx_1922 kx_1923 kx_33 kx_1924 (by decide +kernel) rfl (by decide) (Nat.le_of_ble_eq_true rfl) rfl dX16_readKey_114 rfl (fun z_3 T_3 y_3 => ?_)
    obtain ⟨rfl, u_3, y_3⟩ := y_3
    obtain ⟨v_3, e_3⟩ : ∃ v, v = mM v_2 v_2 := ⟨_, rfl⟩
    have c_3 : cvR T_3 (va_up (va_up R 312 v_2) 323 v_3) := by rw [e_3]; exact y_3
    have o_3 := u_3.at o_2 (by decide)
    clear y_3
    have p311_3 : T_3.2.2 311 = some (.inr (17, [.ref 312, .ref 313, .ref 314])) := c_3.2.2.2.1
    have r_3 := c_3.1.1.1
    refine ks_aload_n dX16_readKey_117 rfl rfl ?_
    refine ks_getf (T := TX16) (kf := 15) kx_2383 rfl in_X16 cl_X16 (by decide) o_3 rfl dX16_readKey_118 rfl ?_
    refine ks_aload_n dX16_readKey_121 rfl rfl ?_
    refine ks_getf (T := TX16) (kf := 22) kx_2390 rfl in_X16 cl_X16 (by decide) o_3 rfl dX16_readKey_122 rfl ?_
    refine ks_aload_n dX16_readKey_125 rfl rfl ?_
    refine ks_getf (T := TX16) (kf := 19) kx_2387 rfl in_X16 cl_X16 (by decide) o_3 rfl dX16_readKey_126 rfl ?_
    refine ks_getN (T := TX14) (kf := 0) kx_1793 rfl in_X14 cl_X14 (by decide) p311_3 rfl dX16_readKey_129 rfl ?_
    refine ks_aload_n dX16_readKey_132 rfl rfl ?_
    refine ks_getf (T := TX16) (kf := 22) kx_2390 rfl in_X16 cl_X16 (by decide) o_3 rfl dX16_readKey_133 rfl ?_
    refine ks_callV (n := 3) (M' := mX15_multiply) (c_fm (d := (d + 1)) (a := 323) (b := 312) (t := 323) c_3 (by decide) (by decide) (by decide)) r_3 cl_X15 rfl kx_2285 kx_1922 kx_1923 kx_33 kx_1924 (by decide +kernel) rfl (by decide) (Nat.le_of_ble_eq_true rfl) rfl dX16_readKey_136 rfl (fun z_4 T_4 y_4 => ?_)
    obtain ⟨rfl, u_4, y_4⟩ := y_4
    obtain ⟨v_4, e_4⟩ : ∃ v, v = mM v_3 v_2 := ⟨_, rfl⟩
    have c_4 : cvR T_4 (va_up (va_up (va_up R 312 v_2) 323 v_3) 323 v_4) := by rw [e_4]; exact y_4
    have o_4 := u_4.at o_3 (by decide)
    clear y_4
    have p311_4 : T_4.2.2 311 = some (.inr (17, [.ref 312, .ref 313, .ref 314])) := c_4.2.2.2.1
    have r_4 := c_4.1.1.1
    refine ks_aload_n dX16_readKey_139 rfl rfl ?_
    refine ks_getf (T := TX16) (kf := 15) kx_2383 rfl in_X16 cl_X16 (by decide) o_4 rfl dX16_readKey_140 rfl ?_
    refine ks_aload_n dX16_readKey_143 rfl rfl ?_
    refine ks_getf (T := TX16) (kf := 22) kx_2390 rfl in_X16 cl_X16 (by decide) o_4 rfl dX16_readKey_144 rfl ?_
    refine ks_aload_n dX16_readKey_147 rfl rfl ?_
    refine ks_getf (T := TX16) (kf := 17) kx_2385 rfl in_X16 cl_X16 (by decide) o_4 rfl dX16_readKey_148 rfl ?_
    refine ks_aload_n dX16_readKey_151 rfl rfl ?_
    refine ks_getf (T := TX16) (kf := 22) kx_2390 rfl in_X16 cl_X16 (by decide) o_4 rfl dX16_readKey_152 rfl ?_
    have s_4 := (s_2.up u_3 (by decide)).up u_4 (by decide)
    refine ks_callV (n := 3) (M' := mX15_add) (c_fa7 (d := d + 1) c_4 s_4) r_4 cl_X15 rfl kx_2286 kx_1862 kx_1863 kx_33 kx_1864 (by decide +kernel) rfl (by decide) (Nat.le_of_ble_eq_true rfl) rfl dX16_readKey_155 rfl (fun z_5 T_5 y_5 => ?_)
    obtain ⟨rfl, u_5, y_5⟩ := y_5
    obtain ⟨v_5, e_5⟩ : ∃ v, v = aM v_4 7 := ⟨_, rfl⟩
    have c_5 : cvR T_5 (va_up (va_up (va_up (va_up R 312 v_2) 323 v_3) 323 v_4) 323 v_5) := by rw [e_5]; exact y_5
    have o_5 := u_5.at o_4 (by decide)
    clear y_5
    have p311_5 : T_5.2.2 311 = some (.inr (17, [.ref 312, .ref 313, .ref 314])) := c_5.2.2.2.1
    have r_5 := c_5.1.1.1
    refine ks_aload_n dX16_readKey_158 rfl rfl ?_
    refine ks_getf (T := TX16) (kf := 15) kx_2383 rfl in_X16 cl_X16 (by decide) o_5 rfl dX16_readKey_159 rfl ?_
    refine ks_getN (T := TX15) (kf := 2) kx_1882 rfl in_X15 cl_X15 (by decide) r_5 rfl dX16_readKey_162 rfl ?_
    refine ks_aload_n dX16_readKey_165 rfl rfl ?_
    refine ks_getf (T := TX16) (kf := 19) kx_2387 rfl in_X16 cl_X16 (by decide) o_5 rfl dX16_readKey_166 rfl ?_
    refine ks_getN (T := TX14) (kf := 2) kx_1797 rfl in_X14 cl_X14 (by decide) p311_5 rfl dX16_readKey_169 rfl ?_
    refine ks_callS (n := 2) (M' := mX15_copy) (c_f1 (d := d + 2) (t := 314) c_5 (by decide)) kx_1945 kx_1876 kx_33 kx_1877 (by decide +kernel) rfl (by decide) (Nat.le_of_ble_eq_true rfl) rfl dX16_readKey_172 rfl (fun z_6 T_6 y_6 => ?_)
    obtain ⟨rfl, u_6, y_6⟩ := y_6
    obtain ⟨v_6, e_6⟩ : ∃ v, v = 1 := ⟨_, rfl⟩
    have c_6 : cvR T_6 (va_up (va_up (va_up (va_up (va_up R 312 v_2) 323 v_3) 323 v_4) 323 v_5) 314 v_6) := by rw [e_6]; exact y_6
    have o_6 := u_6.at o_5 (by decide)
    clear y_6
    have p311_6 : T_6.2.2 311 = some (.inr (17, [.ref 312, .ref 313, .ref 314])) := c_6.2.2.2.1
    have r_6 := c_6.1.1.1
    refine ks_iload_n dX16_readKey_175 rfl rfl ?_
    refine ks_if_neN (tgt := 264) (by decide) dX16_readKey_176 (by decide) rfl (fun _ => ?_) (fun h => absurd h (by decide))
    have ea : v_5 = ky3 (beN g 1) := by rw [e_5, e_4, e_3, e_2]; rfl
    have xs := x_1.up ((((u_2.mono (by decide)).trans (u_3.mono (by decide))).trans (u_4.mono (by decide))).trans ((u_5.mono (by decide)).trans (u_6.mono (by decide))) : ks_up T_1 T_6 [552, 312, 323, 314]) (by decide)
    have Us : ks_up S T_6 [552, 553, 554, 312, 313, 314, 323, 324, 325, 326, 329, 330] := ((((((ks_up.rf _ _).trans (u_1.mono (by decide))).trans (u_2.mono (by decide))).trans (u_3.mono (by decide))).trans (u_4.mono (by decide))).trans (u_5.mono (by decide))).trans (u_6.mono (by decide))
    have y6 := (hY.up u_1 (by decide)).up ((((u_2.mono (by decide)).trans (u_3.mono (by decide))).trans (u_4.mono (by decide))).trans ((u_5.mono (by decide)).trans (u_6.mono (by decide))) : ks_up T_1 T_6 [552, 312, 323, 314]) (by decide)
    refine ks_aload_n dX16_readKey_264 rfl rfl ?_
    refine ks_getf (T := TX16) (kf := 22) kx_2390 rfl in_X16 cl_X16 (by decide) o_6 rfl dX16_readKey_265 rfl ?_
    refine ks_aload_n dX16_readKey_268 rfl rfl ?_
    refine ks_getf (T := TX16) (kf := 24) kx_2392 rfl in_X16 cl_X16 (by decide) o_6 rfl dX16_readKey_269 rfl ?_
    refine ks_callS (n := 2) (M' := mX15_copy) (c_fc (d := d + 2) (a := 323) (t := 325) c_6 (by decide) (by decide)) kx_1945 kx_1876 kx_33 kx_1877 (by decide +kernel) rfl (by decide) (Nat.le_of_ble_eq_true rfl) rfl dX16_readKey_272 rfl (fun z_7 T_7 y_7 => ?_)
    obtain ⟨rfl, u_7, y_7⟩ := y_7
    obtain ⟨v_7, e_7⟩ : ∃ v, v = v_5 := ⟨_, rfl⟩
    have c_7 : cvR T_7 (va_up (va_up (va_up (va_up (va_up (va_up R 312 v_2) 323 v_3) 323 v_4) 323 v_5) 314 v_6) 325 v_7) := by rw [e_7]; exact y_7
    have o_7 := u_7.at o_6 (by decide)
    clear y_7
    have p311_7 : T_7.2.2 311 = some (.inr (17, [.ref 312, .ref 313, .ref 314])) := c_7.2.2.2.1
    have r_7 := c_7.1.1.1
    refine ks_aload_n dX16_readKey_275 rfl rfl ?_
    refine ks_getf (T := TX16) (kf := 15) kx_2383 rfl in_X16 cl_X16 (by decide) o_7 rfl dX16_readKey_276 rfl ?_
    refine ks_aload_n dX16_readKey_279 rfl rfl ?_
    refine ks_getf (T := TX16) (kf := 22) kx_2390 rfl in_X16 cl_X16 (by decide) o_7 rfl dX16_readKey_280 rfl ?_
    refine ks_iconst (x := nI 1) dX16_readKey_283 (by decide) rfl ?_
    refine ks_iconst (x := nI 2) dX16_readKey_284 (by decide) rfl ?_
    refine ks_aload_n dX16_readKey_285 rfl rfl ?_
    refine ks_getf (T := TX16) (kf := 19) kx_2387 rfl in_X16 cl_X16 (by decide) o_7 rfl dX16_readKey_286 rfl ?_
    refine ks_getN (T := TX14) (kf := 1) kx_1795 rfl in_X14 cl_X14 (by decide) p311_7 rfl dX16_readKey_289 rfl ?_
    refine ks_callV (n := 4) (M' := mX15_power) (c_fpR (d := d) (a := 323) (t := 313) c_7 (by decide) (by decide)) r_7 cl_X15 rfl kx_2290 kx_2291 kx_2292 kx_33 kx_2293 (by decide +kernel) rfl (by decide) (Nat.le_of_ble_eq_true rfl) rfl dX16_readKey_292 rfl (fun z_8 T_8 y_8 => ?_)
    obtain ⟨rfl, u_8, y_8⟩ := y_8
    have c_8 : cvR T_8 (va_up (va_up (va_up (va_up (va_up (va_up (va_up R 312 v_2) 323 v_3) 323 v_4) 323 v_5) 314 v_6) 325 v_7) 313 rt) := by rw [ert, ← ea]; exact y_8
    have o_8 := u_8.at o_7 (by decide)
    clear y_8
    have p311_8 : T_8.2.2 311 = some (.inr (17, [.ref 312, .ref 313, .ref 314])) := c_8.2.2.2.1
    have r_8 := c_8.1.1.1
    refine ks_aload_n dX16_readKey_295 rfl rfl ?_
    refine ks_getf (T := TX16) (kf := 15) kx_2383 rfl in_X16 cl_X16 (by decide) o_8 rfl dX16_readKey_296 rfl ?_
    refine ks_aload_n dX16_readKey_299 rfl rfl ?_
    refine ks_getf (T := TX16) (kf := 19) kx_2387 rfl in_X16 cl_X16 (by decide) o_8 rfl dX16_readKey_300 rfl ?_
    refine ks_getN (T := TX14) (kf := 1) kx_1795 rfl in_X14 cl_X14 (by decide) p311_8 rfl dX16_readKey_303 rfl ?_
    refine ks_aload_n dX16_readKey_306 rfl rfl ?_
    refine ks_getf (T := TX16) (kf := 19) kx_2387 rfl in_X16 cl_X16 (by decide) o_8 rfl dX16_readKey_307 rfl ?_
    refine ks_getN (T := TX14) (kf := 1) kx_1795 rfl in_X14 cl_X14 (by decide) p311_8 rfl dX16_readKey_310 rfl ?_
    refine ks_aload_n dX16_readKey_313 rfl rfl ?_
    refine ks_getf (T := TX16) (kf := 23) kx_2391 rfl in_X16 cl_X16 (by decide) o_8 rfl dX16_readKey_314 rfl ?_
    refine ks_callV (n := 3) (M' := mX15_multiply) (c_fm (d := (d + 1)) (a := 313) (b := 313) (t := 324) c_8 (by decide) (by decide) (by decide)) r_8 cl_X15 rfl kx_2285 kx_1922 kx_1923 kx_33 kx_1924 (by decide +kernel) rfl (by decide) (Nat.le_of_ble_eq_true rfl) rfl dX16_readKey_317 rfl (fun z_9 T_9 y_9 => ?_)
    obtain ⟨rfl, u_9, y_9⟩ := y_9
    obtain ⟨v_9, e_9⟩ : ∃ v, v = mM rt rt := ⟨_, rfl⟩
    have c_9 : cvR T_9 (va_up (va_up (va_up (va_up (va_up (va_up (va_up (va_up R 312 v_2) 323 v_3) 323 v_4) 323 v_5) 314 v_6) 325 v_7) 313 rt) 324 v_9) := by rw [e_9]; exact y_9
    have o_9 := u_9.at o_8 (by decide)
    clear y_9
    have p311_9 : T_9.2.2 311 = some (.inr (17, [.ref 312, .ref 313, .ref 314])) := c_9.2.2.2.1
    have r_9 := c_9.1.1.1
    refine ks_aload_n dX16_readKey_320 rfl rfl ?_
    refine ks_getf (T := TX16) (kf := 23) kx_2391 rfl in_X16 cl_X16 (by decide) o_9 rfl dX16_readKey_321 rfl ?_
    refine ks_aload_n dX16_readKey_324 rfl rfl ?_
    refine ks_getf (T := TX16) (kf := 24) kx_2392 rfl in_X16 cl_X16 (by decide) o_9 rfl dX16_readKey_325 rfl ?_
    refine ks_callS (n := 2) (M' := mX15_same) (c_fe (d := d + 1) (a := 324) (b := 325) c_9 (by decide) (by decide)) kx_2287 kx_2288 kx_33 kx_2289 (by decide +kernel) rfl (by decide) (Nat.le_of_ble_eq_true rfl) rfl dX16_readKey_328 rfl (fun z0 T0 y0 => ?_)
    obtain ⟨rfl, hT0⟩ := y0
    obtain rfl := hT0.symm
    have e0 : decide (mM rt rt = ky3 (beN g 1)) = decide (v_9 = v_7) := by rw [e_9, e_7, ea]
    rw [e0]
    have Ut : ks_up S T_9 [552, 553, 554, 312, 313, 314, 323, 324, 325, 326, 329, 330] := ((Us.trans (u_7.mono (by decide))).trans (u_8.mono (by decide))).trans (u_9.mono (by decide))
    have x9 := ((xs.up u_7 (by decide)).up u_8 (by decide)).up u_9 (by decide)
    have y9 := ((y6.up u_7 (by decide)).up u_8 (by decide)).up u_9 (by decide)
    have ey9 := Ut.at hy (by simp only [List.mem_cons, List.not_mem_nil, or_false]; omega)
    refine ks_if_neZ (tgt := 336) dX16_readKey_331 (by decide) rfl (fun h5 => ?_) (fun h5 => ?_)
    · have h5 : decide (v_9 = v_7) = true := h5
      rw [h5]
      refine ks_aload_n dX16_readKey_336 rfl rfl ?_
      refine ks_getf (T := TX16) (kf := 15) kx_2383 rfl in_X16 cl_X16 (by decide) o_9 rfl dX16_readKey_337 rfl ?_
      refine ks_aload_n dX16_readKey_340 rfl rfl ?_
      refine ks_getf (T := TX16) (kf := 19) kx_2387 rfl in_X16 cl_X16 (by decide) o_9 rfl dX16_readKey_341 rfl ?_
      refine ks_getN (T := TX14) (kf := 1) kx_1795 rfl in_X14 cl_X14 (by decide) p311_9 rfl dX16_readKey_344 rfl ?_
      refine ks_aload_n dX16_readKey_347 rfl rfl ?_
      refine ks_getf (T := TX16) (kf := 29) kx_2397 rfl in_X16 cl_X16 (by decide) o_9 rfl dX16_readKey_348 rfl ?_
      refine ks_callV (n := 2) (M' := mX15_leave) (c_flw (d := d) (a := 313) (t := 330) c_9 (by decide) y9 (by decide)) r_9 cl_X15 rfl kx_2294 kx_2295 kx_2296 kx_33 kx_2297 (by decide +kernel) rfl (by decide) (Nat.le_of_ble_eq_true rfl) rfl dX16_readKey_351 rfl (fun z_10 T_10 y_10 => ?_)
      obtain ⟨rfl, u_10, c_10, w_10⟩ := y_10
      have o_10 := u_10.at o_9 (by decide)
      obtain ⟨gp, egp, bgp, dgp⟩ := id w_10
      have ey10 := ey9 |> fun h => u_10.at h (by simp only [List.mem_cons, List.not_mem_nil, or_false]; omega)
      have b0 := bgp 0 (by decide)
      have x10 := x9.up u_10 (by decide)
      have p311_10 : T_10.2.2 311 = some (.inr (17, [.ref 312, .ref 313, .ref 314])) := c_10.2.2.2.1
      have r_10 := c_10.1.1.1
      refine ks_aload_n dX16_readKey_354 rfl rfl ?_
      refine ks_getf (T := TX16) (kf := 29) kx_2397 rfl in_X16 cl_X16 (by decide) o_10 rfl dX16_readKey_355 rfl ?_
      refine ks_iconst (x := nI 0) dX16_readKey_358 (by decide) rfl ?_
      refine ks_ialdN (i := 0) egp rfl (by decide) (by decide) dX16_readKey_359 rfl ?_
      refine ks_iconst (x := nI 1) dX16_readKey_360 (by decide) rfl ?_
      refine ks_andN (k := 1) (by omega) (by decide) dX16_readKey_361 rfl ?_
      refine ks_aload_n dX16_readKey_362 rfl rfl ?_
      refine ks_iconst (x := nI 0) dX16_readKey_363 (by decide) rfl ?_
      refine ks_baldB (i := 0) ey10 rfl (by omega) (by omega) dX16_readKey_364 rfl ?_
      refine ks_iconst (x := nI 2) dX16_readKey_365 (by decide) rfl ?_
      refine ks_isub dX16_readKey_366 rfl ?_
      refine ks_ti (y := nI (g 0 - 2)) (rk_b hs.2) ?_
      have hg0 := kg 0
      have ep : rt % 2 = gp 0 % 2 := by rw [← dg_par, dgp]; rfl
      refine ks_icmp_eqN (tgt := 419) (by omega) (by omega) dX16_readKey_367 (by decide) rfl (fun h4 => ?_) (fun h4 => ?_)
      · refine ks_iconst (x := nI 1) dX16_readKey_419 (by decide) rfl ?_
        refine ks_zret rfl rfl dX16_readKey_420 ?_
        refine ⟨rfl, Ut.trans (u_10.mono (by decide)), ⟨_, c_10, fun k hk hk2 => by rw [va_up_ne _ _ (by omega), va_up_ne _ _ (by omega), va_up_ne _ _ (by omega), va_up_ne _ _ (by omega), va_up_ne _ _ (by omega), va_up_ne _ _ (by omega), va_up_ne _ _ (by omega), va_up_ne _ _ (by omega)], fun _ => ?_⟩, ⟨_, x10⟩, ⟨_, w_10⟩⟩
        rw [if_pos (by omega)]
        show (v_2, rt, v_6) = _
        rw [e_2, e_6]
      · obtain ⟨gz, ez, -, -⟩ := (c_10.2.1 326 (by decide)).1
        refine ks_iconst (x := nI 0) dX16_readKey_370 (by decide) rfl ?_
        refine ks_istore dX16_readKey_371 (by decide) rfl ?_
        refine ks_sub [(4, _), (0, _), (1, _), (2, _), (3, _)] rfl ?_
        refine ks_iload dX16_readKey_373 rfl rfl ?_
        refine ks_bipush (x := nI 8) dX16_readKey_375 (by decide) rfl ?_
        refine ks_icmp_geN (tgt := 394) (by decide) (by decide) dX16_readKey_377 (by decide) rfl (fun h => absurd h (by decide)) (fun _ => ?_)
        refine ks_aload_n dX16_readKey_380 rfl rfl ?_
        refine ks_getf (T := TX16) (kf := 25) kx_2393 rfl in_X16 cl_X16 (by decide) o_10 rfl dX16_readKey_381 rfl ?_
        refine ks_iload dX16_readKey_384 rfl rfl ?_
        refine ks_iconst (x := nI 0) dX16_readKey_386 (by decide) rfl ?_
        refine ks_iastNN (i := 0) (v := 0) (by decide) ez (by decide) (by decide) dX16_readKey_387 rfl ?_
        refine ks_incN (c := 1) (e := 1) dX16_readKey_388 rfl (by decide) rfl (by decide) rfl ?_
        refine ks_sub [(4, _), (0, _), (1, _), (2, _), (3, _)] rfl ?_
        refine ks_goto (tgt := 373) dX16_readKey_391 (by decide) ?_
        refine ks_iload dX16_readKey_373 rfl rfl ?_
        refine ks_bipush (x := nI 8) dX16_readKey_375 (by decide) rfl ?_
        refine ks_icmp_geN (tgt := 394) (by decide) (by decide) dX16_readKey_377 (by decide) rfl (fun h => absurd h (by decide)) (fun _ => ?_)
        refine ks_aload_n dX16_readKey_380 rfl rfl ?_
        refine ks_getf (T := TX16) (kf := 25) kx_2393 rfl in_X16 cl_X16 (by decide) ((ks_set_ne _ _ (by decide)).trans o_10) rfl dX16_readKey_381 rfl ?_
        refine ks_iload dX16_readKey_384 rfl rfl ?_
        refine ks_iconst (x := nI 0) dX16_readKey_386 (by decide) rfl ?_
        refine ks_iastNN (i := 1) (v := 0) (by decide) (ks_set_same _ _ _) (by decide) (by decide) dX16_readKey_387 rfl ?_
        refine ks_incN (c := 1) (e := 2) dX16_readKey_388 rfl (by decide) rfl (by decide) rfl ?_
        refine ks_sub [(4, _), (0, _), (1, _), (2, _), (3, _)] rfl ?_
        refine ks_goto (tgt := 373) dX16_readKey_391 (by decide) ?_
        refine ks_iload dX16_readKey_373 rfl rfl ?_
        refine ks_bipush (x := nI 8) dX16_readKey_375 (by decide) rfl ?_
        refine ks_icmp_geN (tgt := 394) (by decide) (by decide) dX16_readKey_377 (by decide) rfl (fun h => absurd h (by decide)) (fun _ => ?_)
        refine ks_aload_n dX16_readKey_380 rfl rfl ?_
        refine ks_getf (T := TX16) (kf := 25) kx_2393 rfl in_X16 cl_X16 (by decide) ((ks_set_ne _ _ (by decide)).trans ((ks_set_ne _ _ (by decide)).trans o_10)) rfl dX16_readKey_381 rfl ?_
        refine ks_iload dX16_readKey_384 rfl rfl ?_
        refine ks_iconst (x := nI 0) dX16_readKey_386 (by decide) rfl ?_
        refine ks_iastNN (i := 2) (v := 0) (by decide) (ks_set_same _ _ _) (by decide) (by decide) dX16_readKey_387 rfl ?_
        refine ks_incN (c := 1) (e := 3) dX16_readKey_388 rfl (by decide) rfl (by decide) rfl ?_
        refine ks_sub [(4, _), (0, _), (1, _), (2, _), (3, _)] rfl ?_
        refine ks_goto (tgt := 373) dX16_readKey_391 (by decide) ?_
        refine ks_iload dX16_readKey_373 rfl rfl ?_
        refine ks_bipush (x := nI 8) dX16_readKey_375 (by decide) rfl ?_
        refine ks_icmp_geN (tgt := 394) (by decide) (by decide) dX16_readKey_377 (by decide) rfl (fun h => absurd h (by decide)) (fun _ => ?_)
        refine ks_aload_n dX16_readKey_380 rfl rfl ?_
        refine ks_getf (T := TX16) (kf := 25) kx_2393 rfl in_X16 cl_X16 (by decide) ((ks_set_ne _ _ (by decide)).trans ((ks_set_ne _ _ (by decide)).trans ((ks_set_ne _ _ (by decide)).trans o_10))) rfl dX16_readKey_381 rfl ?_
        refine ks_iload dX16_readKey_384 rfl rfl ?_
        refine ks_iconst (x := nI 0) dX16_readKey_386 (by decide) rfl ?_
        refine ks_iastNN (i := 3) (v := 0) (by decide) (ks_set_same _ _ _) (by decide) (by decide) dX16_readKey_387 rfl ?_
        refine ks_incN (c := 1) (e := 4) dX16_readKey_388 rfl (by decide) rfl (by decide) rfl ?_
        refine ks_sub [(4, _), (0, _), (1, _), (2, _), (3, _)] rfl ?_
        refine ks_goto (tgt := 373) dX16_readKey_391 (by decide) ?_
        refine ks_iload dX16_readKey_373 rfl rfl ?_
        refine ks_bipush (x := nI 8) dX16_readKey_375 (by decide) rfl ?_
        refine ks_icmp_geN (tgt := 394) (by decide) (by decide) dX16_readKey_377 (by decide) rfl (fun h => absurd h (by decide)) (fun _ => ?_)
        refine ks_aload_n dX16_readKey_380 rfl rfl ?_
        refine ks_getf (T := TX16) (kf := 25) kx_2393 rfl in_X16 cl_X16 (by decide) ((ks_set_ne _ _ (by decide)).trans ((ks_set_ne _ _ (by decide)).trans ((ks_set_ne _ _ (by decide)).trans ((ks_set_ne _ _ (by decide)).trans o_10)))) rfl dX16_readKey_381 rfl ?_
        refine ks_iload dX16_readKey_384 rfl rfl ?_
        refine ks_iconst (x := nI 0) dX16_readKey_386 (by decide) rfl ?_
        refine ks_iastNN (i := 4) (v := 0) (by decide) (ks_set_same _ _ _) (by decide) (by decide) dX16_readKey_387 rfl ?_
        refine ks_incN (c := 1) (e := 5) dX16_readKey_388 rfl (by decide) rfl (by decide) rfl ?_
        refine ks_sub [(4, _), (0, _), (1, _), (2, _), (3, _)] rfl ?_
        refine ks_goto (tgt := 373) dX16_readKey_391 (by decide) ?_
        refine ks_iload dX16_readKey_373 rfl rfl ?_
        refine ks_bipush (x := nI 8) dX16_readKey_375 (by decide) rfl ?_
        refine ks_icmp_geN (tgt := 394) (by decide) (by decide) dX16_readKey_377 (by decide) rfl (fun h => absurd h (by decide)) (fun _ => ?_)
        refine ks_aload_n dX16_readKey_380 rfl rfl ?_
        refine ks_getf (T := TX16) (kf := 25) kx_2393 rfl in_X16 cl_X16 (by decide) ((ks_set_ne _ _ (by decide)).trans ((ks_set_ne _ _ (by decide)).trans ((ks_set_ne _ _ (by decide)).trans ((ks_set_ne _ _ (by decide)).trans ((ks_set_ne _ _ (by decide)).trans o_10))))) rfl dX16_readKey_381 rfl ?_
        refine ks_iload dX16_readKey_384 rfl rfl ?_
        refine ks_iconst (x := nI 0) dX16_readKey_386 (by decide) rfl ?_
        refine ks_iastNN (i := 5) (v := 0) (by decide) (ks_set_same _ _ _) (by decide) (by decide) dX16_readKey_387 rfl ?_
        refine ks_incN (c := 1) (e := 6) dX16_readKey_388 rfl (by decide) rfl (by decide) rfl ?_
        refine ks_sub [(4, _), (0, _), (1, _), (2, _), (3, _)] rfl ?_
        refine ks_goto (tgt := 373) dX16_readKey_391 (by decide) ?_
        refine ks_iload dX16_readKey_373 rfl rfl ?_
        refine ks_bipush (x := nI 8) dX16_readKey_375 (by decide) rfl ?_
        refine ks_icmp_geN (tgt := 394) (by decide) (by decide) dX16_readKey_377 (by decide) rfl (fun h => absurd h (by decide)) (fun _ => ?_)
        refine ks_aload_n dX16_readKey_380 rfl rfl ?_
        refine ks_getf (T := TX16) (kf := 25) kx_2393 rfl in_X16 cl_X16 (by decide) ((ks_set_ne _ _ (by decide)).trans ((ks_set_ne _ _ (by decide)).trans ((ks_set_ne _ _ (by decide)).trans ((ks_set_ne _ _ (by decide)).trans ((ks_set_ne _ _ (by decide)).trans ((ks_set_ne _ _ (by decide)).trans o_10)))))) rfl dX16_readKey_381 rfl ?_
        refine ks_iload dX16_readKey_384 rfl rfl ?_
        refine ks_iconst (x := nI 0) dX16_readKey_386 (by decide) rfl ?_
        refine ks_iastNN (i := 6) (v := 0) (by decide) (ks_set_same _ _ _) (by decide) (by decide) dX16_readKey_387 rfl ?_
        refine ks_incN (c := 1) (e := 7) dX16_readKey_388 rfl (by decide) rfl (by decide) rfl ?_
        refine ks_sub [(4, _), (0, _), (1, _), (2, _), (3, _)] rfl ?_
        refine ks_goto (tgt := 373) dX16_readKey_391 (by decide) ?_
        refine ks_iload dX16_readKey_373 rfl rfl ?_
        refine ks_bipush (x := nI 8) dX16_readKey_375 (by decide) rfl ?_
        refine ks_icmp_geN (tgt := 394) (by decide) (by decide) dX16_readKey_377 (by decide) rfl (fun h => absurd h (by decide)) (fun _ => ?_)
        refine ks_aload_n dX16_readKey_380 rfl rfl ?_
        refine ks_getf (T := TX16) (kf := 25) kx_2393 rfl in_X16 cl_X16 (by decide) ((ks_set_ne _ _ (by decide)).trans ((ks_set_ne _ _ (by decide)).trans ((ks_set_ne _ _ (by decide)).trans ((ks_set_ne _ _ (by decide)).trans ((ks_set_ne _ _ (by decide)).trans ((ks_set_ne _ _ (by decide)).trans ((ks_set_ne _ _ (by decide)).trans o_10))))))) rfl dX16_readKey_381 rfl ?_
        refine ks_iload dX16_readKey_384 rfl rfl ?_
        refine ks_iconst (x := nI 0) dX16_readKey_386 (by decide) rfl ?_
        refine ks_iastNN (i := 7) (v := 0) (by decide) (ks_set_same _ _ _) (by decide) (by decide) dX16_readKey_387 rfl ?_
        refine ks_incN (c := 1) (e := 8) dX16_readKey_388 rfl (by decide) rfl (by decide) rfl ?_
        refine ks_sub [(4, _), (0, _), (1, _), (2, _), (3, _)] rfl ?_
        refine ks_goto (tgt := 373) dX16_readKey_391 (by decide) ?_
        refine ks_iload dX16_readKey_373 rfl rfl ?_
        refine ks_bipush (x := nI 8) dX16_readKey_375 (by decide) rfl ?_
        refine ks_icmp_geN (tgt := 394) (by decide) (by decide) dX16_readKey_377 (by decide) rfl (fun _ => ?_) (fun h => absurd h (by decide))
        generalize eT : ks_set _ 326 _ = T_11
        have u_11 : ks_up T_10 T_11 [326] := by rw [← eT]; exact up8
        have c_11 : cvR T_11 (va_up (va_up (va_up (va_up (va_up (va_up (va_up (va_up (va_up R 312 v_2) 323 v_3) 323 v_4) 323 v_5) 314 v_6) 325 v_7) 313 rt) 324 v_9) 326 0) := by
          refine c_10.z (by decide) u_11 (g := va_up (va_up (va_up (va_up (va_up (va_up (va_up (va_up gz 0 0) 1 0) 2 0) 3 0) 4 0) 5 0) 6 0) 7 0) ?_ z8
          rw [← eT]
          exact ks_set_same _ _ _
        have o_11 := u_11.at o_10 (by decide)
        have p311_11 : T_11.2.2 311 = some (.inr (17, [.ref 312, .ref 313, .ref 314])) := c_11.2.2.2.1
        have r_11 := c_11.1.1.1
        refine ks_aload_n dX16_readKey_394 rfl rfl ?_
        refine ks_getf (T := TX16) (kf := 15) kx_2383 rfl in_X16 cl_X16 (by decide) o_11 rfl dX16_readKey_395 rfl ?_
        refine ks_aload_n dX16_readKey_398 rfl rfl ?_
        refine ks_getf (T := TX16) (kf := 25) kx_2393 rfl in_X16 cl_X16 (by decide) o_11 rfl dX16_readKey_399 rfl ?_
        refine ks_aload_n dX16_readKey_402 rfl rfl ?_
        refine ks_getf (T := TX16) (kf := 19) kx_2387 rfl in_X16 cl_X16 (by decide) o_11 rfl dX16_readKey_403 rfl ?_
        refine ks_getN (T := TX14) (kf := 1) kx_1795 rfl in_X14 cl_X14 (by decide) p311_11 rfl dX16_readKey_406 rfl ?_
        refine ks_aload_n dX16_readKey_409 rfl rfl ?_
        refine ks_getf (T := TX16) (kf := 19) kx_2387 rfl in_X16 cl_X16 (by decide) o_11 rfl dX16_readKey_410 rfl ?_
        refine ks_getN (T := TX14) (kf := 1) kx_1795 rfl in_X14 cl_X14 (by decide) p311_11 rfl dX16_readKey_413 rfl ?_
        refine ks_callV (n := 3) (M' := mX15_subtract) (c_fs (d := (d + 1)) (a := 326) (b := 313) (t := 313) c_11 (by decide) (by decide) (by decide)) r_11 cl_X15 rfl kx_2298 kx_2299 kx_2300 kx_33 kx_2301 (by decide +kernel) rfl (by decide) (Nat.le_of_ble_eq_true rfl) rfl dX16_readKey_416 rfl (fun z_12 T_12 y_12 => ?_)
        obtain ⟨rfl, u_12, y_12⟩ := y_12
        obtain ⟨v_12, e_12⟩ : ∃ v, v = sM 0 rt := ⟨_, rfl⟩
        have c_12 : cvR T_12 (va_up (va_up (va_up (va_up (va_up (va_up (va_up (va_up (va_up (va_up R 312 v_2) 323 v_3) 323 v_4) 323 v_5) 314 v_6) 325 v_7) 313 rt) 324 v_9) 326 0) 313 v_12) := by rw [e_12]; exact y_12
        have o_12 := u_12.at o_11 (by decide)
        clear y_12
        have p311_12 : T_12.2.2 311 = some (.inr (17, [.ref 312, .ref 313, .ref 314])) := c_12.2.2.2.1
        have r_12 := c_12.1.1.1
        refine ks_iconst (x := nI 1) dX16_readKey_419 (by decide) rfl ?_
        refine ks_zret rfl rfl dX16_readKey_420 ?_
        refine ⟨rfl, ((Ut.trans (u_10.mono (by decide))).trans (u_11.mono (by decide))).trans (u_12.mono (by decide)), ⟨_, c_12, fun k hk hk2 => by rw [va_up_ne _ _ (by omega), va_up_ne _ _ (by omega), va_up_ne _ _ (by omega), va_up_ne _ _ (by omega), va_up_ne _ _ (by omega), va_up_ne _ _ (by omega), va_up_ne _ _ (by omega), va_up_ne _ _ (by omega), va_up_ne _ _ (by omega), va_up_ne _ _ (by omega)], fun _ => ?_⟩, ⟨_, (x10.up u_11 (by decide)).up u_12 (by decide)⟩, ⟨_, (w_10.up u_11 (by decide)).up u_12 (by decide)⟩⟩
        rw [if_neg (by omega)]
        show (v_2, v_12, v_6) = _
        rw [e_2, e_6, e_12]
    · refine ks_iconst (x := nI 0) dX16_readKey_334 (by decide) rfl ?_
      refine ks_zret rfl rfl dX16_readKey_335 ?_
      have h5 : decide (v_9 = v_7) = false := h5
      rw [h5]
      exact ⟨rfl, Ut, ⟨_, c_9, fun k hk hk2 => by rw [va_up_ne _ _ (by omega), va_up_ne _ _ (by omega), va_up_ne _ _ (by omega), va_up_ne _ _ (by omega), va_up_ne _ _ (by omega), va_up_ne _ _ (by omega), va_up_ne _ _ (by omega), va_up_ne _ _ (by omega)], fun h => absurd h (by decide)⟩, ⟨_, x9⟩, ⟨_, y9⟩⟩
  · refine ks_iconst (x := nI 0) dX16_readKey_72 (by decide) rfl ?_
    refine ks_zret rfl rfl dX16_readKey_73 ?_
    have hl : ¬ beN g 1 < pP := fun h => h9 (cmpN_lt.mpr h)
    rw [decide_eq_false hl, Bool.false_and]
    exact ⟨rfl, u_1.mono (by decide), ⟨R, c_1, fun _ _ _ => rfl, fun h => absurd h (by decide)⟩, ⟨_, x_1⟩, ⟨_, hY.up u_1 (by decide)⟩⟩
set_option maxRecDepth 100000 in
set_option maxHeartbeats 3200000 in
theorem l_readKeyW {l : Launch} {G : ks_G} {d : Nat} {S : ks_S} {V : Nat → Value} {R : Nat → Nat} {y N n X Y : Nat} {g : Nat → Nat} (hO : S.2.2 290 = some (rfE V)) (hC : cvR S R) (h7 : fX S 306 7) (hX : wA S 329 X) (hY : wA S 330 Y) (hy : S.2.2 y = some (kB N g)) (kg : kO g) (hn : n ≤ N) (hN : N < 2 ^ 28) (hyn : y < 291 ∨ 335 < y) (hyr : y < 547 ∨ 554 < y) (hs : ¬ rykS g n) (hw : n = 65 ∧ g 0 = 4) : ks_X l G mX16_readKey (d + 3) 45 [(0, .ref 290), (1, .ref y), (2, .int (nI n)), (3, .int (nI 0))] [] S (fun z S' => z = some (.int (ks_bo (rykF g n))) ∧ ks_up S S' [552, 553, 554, 312, 313, 314, 323, 324, 325, 326, 329, 330] ∧ (∃ R', cvR S' R' ∧ (∀ k, k < 312 ∨ 314 < k → k < 323 → R' k = R k) ∧ (rykF g n = true → ptR R' 312 = (beN g 1, rykY g n, 1))) ∧ (∃ X, wA S' 329 X) ∧ (∃ Y, wA S' 330 Y)) := by
  have n33 : 33 ≤ n := by unfold rykS at hs; omega
  obtain ⟨rt, ert⟩ : ∃ v, v = rtM (ky3 (beN g 1)) := ⟨_, rfl⟩
  have n65 : n = 65 := hw.1
  have eF : rykF g n = (decide (beN g 1 < pP) && decide (beN g 33 < pP ∧ ky3 (beN g 1) = mM (beN g 33) (beN g 33))) := by unfold rykF; rw [if_neg hs]; congr 1; exact decide_eq_decide.mpr ⟨fun h => h.2.2, fun h => ⟨hw.1, hw.2, h⟩⟩
  have eY : rykY g n = beN g 33 := by unfold rykY; rw [if_neg hs]
  rw [eF, eY]
  clear eF eY
  have p311_0 : S.2.2 311 = some (.inr (17, [.ref 312, .ref 313, .ref 314])) := hC.2.2.2.1
  have r_0 := hC.1.1.1
  refine ks_aload_n dX16_readKey_45 rfl rfl ?_
  refine ks_iconst (x := nI 1) dX16_readKey_46 (by decide) rfl ?_
  refine ks_iconst (x := nI 1) dX16_readKey_47 (by decide) rfl ?_
  refine ks_aload_n dX16_readKey_48 rfl rfl ?_
  refine ks_getf (T := TX16) (kf := 28) kx_2396 rfl in_X16 cl_X16 (by decide) hO rfl dX16_readKey_49 rfl ?_
  refine ks_callS (n := 4) (M' := mX16_fromBytes) (c_md_fromH (d := d + 2) hy kg (by omega) hN hX (by decide)) kx_2043 kx_2044 kx_30 kx_2045 (by decide +kernel) rfl (by decide) (Nat.le_of_ble_eq_true rfl) rfl dX16_readKey_52 rfl (fun z_1 T_1 y_1 => ?_)
  obtain ⟨rfl, u_1, x_1⟩ := y_1
  rw [fb_be] at x_1
  have o_1 := u_1.at hO (by decide)
  have c_1 := hC.up u_1 (by decide)
  have p311_1 : T_1.2.2 311 = some (.inr (17, [.ref 312, .ref 313, .ref 314])) := c_1.2.2.2.1
  have r_1 := c_1.1.1.1
  refine ks_aload_n dX16_readKey_55 rfl rfl ?_
  refine ks_getf (T := TX16) (kf := 28) kx_2396 rfl in_X16 cl_X16 (by decide) o_1 rfl dX16_readKey_56 rfl ?_
  refine ks_aload_n dX16_readKey_59 rfl rfl ?_
  refine ks_getf (T := TX16) (kf := 15) kx_2383 rfl in_X16 cl_X16 (by decide) o_1 rfl dX16_readKey_60 rfl ?_
  refine ks_getN (T := TX15) (kf := 0) kx_1879 rfl in_X15 cl_X15 (by decide) r_1 rfl dX16_readKey_63 rfl ?_
  refine ks_callS (n := 2) (M' := mX15_compare) (c_rg_compare (d := d + 2) x_1 c_1.1.1.2.1 (by decide) (by decide)) kx_2035 kx_1870 kx_33 kx_1871 (by decide +kernel) rfl (by decide) (Nat.le_of_ble_eq_true rfl) rfl dX16_readKey_66 rfl (fun z9 T9 y9 => ?_)
  obtain ⟨rfl, hT9⟩ := y9
  obtain rfl := hT9.symm
  refine ks_if_lt (tgt := 74) dX16_readKey_69 (by decide) rfl (fun h9 => ?_) (fun h9 => ?_)
  · have hl : beN g 1 < pP := cmpN_lt.mp h9
    rw [decide_eq_true hl, Bool.true_and]
    refine ks_aload_n dX16_readKey_74 rfl rfl ?_
    refine ks_getf (T := TX16) (kf := 15) kx_2383 rfl in_X16 cl_X16 (by decide) o_1 rfl dX16_readKey_75 rfl ?_
    refine ks_aload_n dX16_readKey_78 rfl rfl ?_
    refine ks_getf (T := TX16) (kf := 28) kx_2396 rfl in_X16 cl_X16 (by decide) o_1 rfl dX16_readKey_79 rfl ?_
    refine ks_aload_n dX16_readKey_82 rfl rfl ?_
    refine ks_getf (T := TX16) (kf := 19) kx_2387 rfl in_X16 cl_X16 (by decide) o_1 rfl dX16_readKey_83 rfl ?_
    refine ks_getN (T := TX14) (kf := 0) kx_1793 rfl in_X14 cl_X14 (by decide) p311_1 rfl dX16_readKey_86 rfl ?_
    refine ks_callV (n := 2) (M' := mX15_enter) (c_fen (d := d) (a := 329) (t := 312) c_1 x_1 (by decide) (by decide)) r_1 cl_X15 rfl kx_1917 kx_1918 kx_1919 kx_33 kx_1920 (by decide +kernel) rfl (by decide) (Nat.le_of_ble_eq_true rfl) rfl dX16_readKey_89 rfl (fun z_2 T_2 y_2 => ?_)
    obtain ⟨rfl, u_2, y_2⟩ := y_2
    obtain ⟨v_2, e_2⟩ : ∃ v, v = beN g 1 % pP := ⟨_, rfl⟩
    have c_2 : cvR T_2 (va_up R 312 v_2) := by rw [e_2]; exact y_2
    have o_2 := u_2.at o_1 (by decide)
    clear y_2
    have p311_2 : T_2.2.2 311 = some (.inr (17, [.ref 312, .ref 313, .ref 314])) := c_2.2.2.2.1
    have r_2 := c_2.1.1.1
    rw [Nat.mod_eq_of_lt hl] at e_2
    have s_2 := h7.up u_1 (by decide) |>.up u_2 (by decide)
    refine ks_aload_n dX16_readKey_92 rfl rfl ?_
    refine ks_getf (T := TX16) (kf := 15) kx_2383 rfl in_X16 cl_X16 (by decide) o_2 rfl dX16_readKey_93 rfl ?_
    refine ks_aload_n dX16_readKey_96 rfl rfl ?_
    refine ks_getf (T := TX16) (kf := 19) kx_2387 rfl in_X16 cl_X16 (by decide) o_2 rfl dX16_readKey_97 rfl ?_
    refine ks_getN (T := TX14) (kf := 0) kx_1793 rfl in_X14 cl_X14 (by decide) p311_2 rfl dX16_readKey_100 rfl ?_
    refine ks_aload_n dX16_readKey_103 rfl rfl ?_
    refine ks_getf (T := TX16) (kf := 19) kx_2387 rfl in_X16 cl_X16 (by decide) o_2 rfl dX16_readKey_104 rfl ?_
    refine ks_getN (T := TX14) (kf := 0) kx_1793 rfl in_X14 cl_X14 (by decide) p311_2 rfl dX16_readKey_107 rfl ?_
    refine ks_aload_n dX16_readKey_110 rfl rfl ?_
    refine ks_getf (T := TX16) (kf := 22) kx_2390 rfl in_X16 cl_X16 (by decide) o_2 rfl dX16_readKey_111 rfl ?_
    refine ks_callV (n := 3) (M' := mX15_multiply) (c_fm (d := (d + 1)) (a := 312) (b := 312) (t := 323) c_2 (by decide) (by decide) (by decide)) r_2 cl_X15 rfl kx_2285 kx_1922 kx_1923 kx_33 kx_1924 (by decide +kernel) rfl (by decide) (Nat.le_of_ble_eq_true rfl) rfl dX16_readKey_114 rfl (fun z_3 T_3 y_3 => ?_)
    obtain ⟨rfl, u_3, y_3⟩ := y_3
    obtain ⟨v_3, e_3⟩ : ∃ v, v = mM v_2 v_2 := ⟨_, rfl⟩
    have c_3 : cvR T_3 (va_up (va_up R 312 v_2) 323 v_3) := by rw [e_3]; exact y_3
    have o_3 := u_3.at o_2 (by decide)
    clear y_3
    have p311_3 : T_3.2.2 311 = some (.inr (17, [.ref 312, .ref 313, .ref 314])) := c_3.2.2.2.1
    have r_3 := c_3.1.1.1
    refine ks_aload_n dX16_readKey_117 rfl rfl ?_
    refine ks_getf (T := TX16) (kf := 15) kx_2383 rfl in_X16 cl_X16 (by decide) o_3 rfl dX16_readKey_118 rfl ?_
    refine ks_aload_n dX16_readKey_121 rfl rfl ?_
    refine ks_getf (T := TX16) (kf := 22) kx_2390 rfl in_X16 cl_X16 (by decide) o_3 rfl dX16_readKey_122 rfl ?_
    refine ks_aload_n dX16_readKey_125 rfl rfl ?_
    refine ks_getf (T := TX16) (kf := 19) kx_2387 rfl in_X16 cl_X16 (by decide) o_3 rfl dX16_readKey_126 rfl ?_
    refine ks_getN (T := TX14) (kf := 0) kx_1793 rfl in_X14 cl_X14 (by decide) p311_3 rfl dX16_readKey_129 rfl ?_
    refine ks_aload_n dX16_readKey_132 rfl rfl ?_
    refine ks_getf (T := TX16) (kf := 22) kx_2390 rfl in_X16 cl_X16 (by decide) o_3 rfl dX16_readKey_133 rfl ?_
    refine ks_callV (n := 3) (M' := mX15_multiply) (c_fm (d := (d + 1)) (a := 323) (b := 312) (t := 323) c_3 (by decide) (by decide) (by decide)) r_3 cl_X15 rfl kx_2285 kx_1922 kx_1923 kx_33 kx_1924 (by decide +kernel) rfl (by decide) (Nat.le_of_ble_eq_true rfl) rfl dX16_readKey_136 rfl (fun z_4 T_4 y_4 => ?_)
    obtain ⟨rfl, u_4, y_4⟩ := y_4
    obtain ⟨v_4, e_4⟩ : ∃ v, v = mM v_3 v_2 := ⟨_, rfl⟩
    have c_4 : cvR T_4 (va_up (va_up (va_up R 312 v_2) 323 v_3) 323 v_4) := by rw [e_4]; exact y_4
    have o_4 := u_4.at o_3 (by decide)
    clear y_4
    have p311_4 : T_4.2.2 311 = some (.inr (17, [.ref 312, .ref 313, .ref 314])) := c_4.2.2.2.1
    have r_4 := c_4.1.1.1
    refine ks_aload_n dX16_readKey_139 rfl rfl ?_
    refine ks_getf (T := TX16) (kf := 15) kx_2383 rfl in_X16 cl_X16 (by decide) o_4 rfl dX16_readKey_140 rfl ?_
    refine ks_aload_n dX16_readKey_143 rfl rfl ?_
    refine ks_getf (T := TX16) (kf := 22) kx_2390 rfl in_X16 cl_X16 (by decide) o_4 rfl dX16_readKey_144 rfl ?_
    refine ks_aload_n dX16_readKey_147 rfl rfl ?_
    refine ks_getf (T := TX16) (kf := 17) kx_2385 rfl in_X16 cl_X16 (by decide) o_4 rfl dX16_readKey_148 rfl ?_
    refine ks_aload_n dX16_readKey_151 rfl rfl ?_
    refine ks_getf (T := TX16) (kf := 22) kx_2390 rfl in_X16 cl_X16 (by decide) o_4 rfl dX16_readKey_152 rfl ?_
    have s_4 := (s_2.up u_3 (by decide)).up u_4 (by decide)
    refine ks_callV (n := 3) (M' := mX15_add) (c_fa7 (d := d + 1) c_4 s_4) r_4 cl_X15 rfl kx_2286 kx_1862 kx_1863 kx_33 kx_1864 (by decide +kernel) rfl (by decide) (Nat.le_of_ble_eq_true rfl) rfl dX16_readKey_155 rfl (fun z_5 T_5 y_5 => ?_)
    obtain ⟨rfl, u_5, y_5⟩ := y_5
    obtain ⟨v_5, e_5⟩ : ∃ v, v = aM v_4 7 := ⟨_, rfl⟩
    have c_5 : cvR T_5 (va_up (va_up (va_up (va_up R 312 v_2) 323 v_3) 323 v_4) 323 v_5) := by rw [e_5]; exact y_5
    have o_5 := u_5.at o_4 (by decide)
    clear y_5
    have p311_5 : T_5.2.2 311 = some (.inr (17, [.ref 312, .ref 313, .ref 314])) := c_5.2.2.2.1
    have r_5 := c_5.1.1.1
    refine ks_aload_n dX16_readKey_158 rfl rfl ?_
    refine ks_getf (T := TX16) (kf := 15) kx_2383 rfl in_X16 cl_X16 (by decide) o_5 rfl dX16_readKey_159 rfl ?_
    refine ks_getN (T := TX15) (kf := 2) kx_1882 rfl in_X15 cl_X15 (by decide) r_5 rfl dX16_readKey_162 rfl ?_
    refine ks_aload_n dX16_readKey_165 rfl rfl ?_
    refine ks_getf (T := TX16) (kf := 19) kx_2387 rfl in_X16 cl_X16 (by decide) o_5 rfl dX16_readKey_166 rfl ?_
    refine ks_getN (T := TX14) (kf := 2) kx_1797 rfl in_X14 cl_X14 (by decide) p311_5 rfl dX16_readKey_169 rfl ?_
    refine ks_callS (n := 2) (M' := mX15_copy) (c_f1 (d := d + 2) (t := 314) c_5 (by decide)) kx_1945 kx_1876 kx_33 kx_1877 (by decide +kernel) rfl (by decide) (Nat.le_of_ble_eq_true rfl) rfl dX16_readKey_172 rfl (fun z_6 T_6 y_6 => ?_)
    obtain ⟨rfl, u_6, y_6⟩ := y_6
    obtain ⟨v_6, e_6⟩ : ∃ v, v = 1 := ⟨_, rfl⟩
    have c_6 : cvR T_6 (va_up (va_up (va_up (va_up (va_up R 312 v_2) 323 v_3) 323 v_4) 323 v_5) 314 v_6) := by rw [e_6]; exact y_6
    have o_6 := u_6.at o_5 (by decide)
    clear y_6
    have p311_6 : T_6.2.2 311 = some (.inr (17, [.ref 312, .ref 313, .ref 314])) := c_6.2.2.2.1
    have r_6 := c_6.1.1.1
    refine ks_iload_n dX16_readKey_175 rfl rfl ?_
    refine ks_if_neN (tgt := 264) (by decide) dX16_readKey_176 (by decide) rfl (fun h => absurd h (by decide)) (fun _ => ?_)
    have ea : v_5 = ky3 (beN g 1) := by rw [e_5, e_4, e_3, e_2]; rfl
    have xs := x_1.up ((((u_2.mono (by decide)).trans (u_3.mono (by decide))).trans (u_4.mono (by decide))).trans ((u_5.mono (by decide)).trans (u_6.mono (by decide))) : ks_up T_1 T_6 [552, 312, 323, 314]) (by decide)
    have Us : ks_up S T_6 [552, 553, 554, 312, 313, 314, 323, 324, 325, 326, 329, 330] := ((((((ks_up.rf _ _).trans (u_1.mono (by decide))).trans (u_2.mono (by decide))).trans (u_3.mono (by decide))).trans (u_4.mono (by decide))).trans (u_5.mono (by decide))).trans (u_6.mono (by decide))
    have y6 := (hY.up u_1 (by decide)).up ((((u_2.mono (by decide)).trans (u_3.mono (by decide))).trans (u_4.mono (by decide))).trans ((u_5.mono (by decide)).trans (u_6.mono (by decide))) : ks_up T_1 T_6 [552, 312, 323, 314]) (by decide)
    have ey6 := Us.at hy (by simp only [List.mem_cons, List.not_mem_nil, or_false]; omega)
    refine ks_aload_n dX16_readKey_179 rfl rfl ?_
    refine ks_bipush (x := nI 33) dX16_readKey_180 (by decide) rfl ?_
    refine ks_iconst (x := nI 1) dX16_readKey_182 (by decide) rfl ?_
    refine ks_aload_n dX16_readKey_183 rfl rfl ?_
    refine ks_getf (T := TX16) (kf := 29) kx_2397 rfl in_X16 cl_X16 (by decide) o_6 rfl dX16_readKey_184 rfl ?_
    refine ks_callS (n := 4) (M' := mX16_fromBytes) (c_md_fromH (d := d + 2) ey6 kg (by omega) hN y6 (by decide)) kx_2043 kx_2044 kx_30 kx_2045 (by decide +kernel) rfl (by decide) (Nat.le_of_ble_eq_true rfl) rfl dX16_readKey_187 rfl (fun z_7 T_7 y_7 => ?_)
    obtain ⟨rfl, u_7, w_7⟩ := y_7
    rw [fb_be] at w_7
    have o_7 := u_7.at o_6 (by decide)
    have c_7 := c_6.up u_7 (by decide)
    have xs7 := xs.up u_7 (by decide)
    have p311_7 : T_7.2.2 311 = some (.inr (17, [.ref 312, .ref 313, .ref 314])) := c_7.2.2.2.1
    have r_7 := c_7.1.1.1
    refine ks_aload_n dX16_readKey_190 rfl rfl ?_
    refine ks_getf (T := TX16) (kf := 29) kx_2397 rfl in_X16 cl_X16 (by decide) o_7 rfl dX16_readKey_191 rfl ?_
    refine ks_aload_n dX16_readKey_194 rfl rfl ?_
    refine ks_getf (T := TX16) (kf := 15) kx_2383 rfl in_X16 cl_X16 (by decide) o_7 rfl dX16_readKey_195 rfl ?_
    refine ks_getN (T := TX15) (kf := 0) kx_1879 rfl in_X15 cl_X15 (by decide) r_7 rfl dX16_readKey_198 rfl ?_
    refine ks_callS (n := 2) (M' := mX15_compare) (c_rg_compare (d := d + 2) w_7 c_7.1.1.2.1 (by decide) (by decide)) kx_2035 kx_1870 kx_33 kx_1871 (by decide +kernel) rfl (by decide) (Nat.le_of_ble_eq_true rfl) rfl dX16_readKey_201 rfl (fun z9 T9 y9 => ?_)
    obtain ⟨rfl, hT9⟩ := y9
    obtain rfl := hT9.symm
    refine ks_if_lt (tgt := 209) dX16_readKey_204 (by decide) rfl (fun h7b => ?_) (fun h7b => ?_)
    · have hl2 : beN g 33 < pP := cmpN_lt.mp h7b
      refine ks_aload_n dX16_readKey_209 rfl rfl ?_
      refine ks_getf (T := TX16) (kf := 15) kx_2383 rfl in_X16 cl_X16 (by decide) o_7 rfl dX16_readKey_210 rfl ?_
      refine ks_aload_n dX16_readKey_213 rfl rfl ?_
      refine ks_getf (T := TX16) (kf := 29) kx_2397 rfl in_X16 cl_X16 (by decide) o_7 rfl dX16_readKey_214 rfl ?_
      refine ks_aload_n dX16_readKey_217 rfl rfl ?_
      refine ks_getf (T := TX16) (kf := 19) kx_2387 rfl in_X16 cl_X16 (by decide) o_7 rfl dX16_readKey_218 rfl ?_
      refine ks_getN (T := TX14) (kf := 1) kx_1795 rfl in_X14 cl_X14 (by decide) p311_7 rfl dX16_readKey_221 rfl ?_
      refine ks_callV (n := 2) (M' := mX15_enter) (c_fen (d := d) (a := 330) (t := 313) c_7 w_7 (by decide) (by decide)) r_7 cl_X15 rfl kx_1917 kx_1918 kx_1919 kx_33 kx_1920 (by decide +kernel) rfl (by decide) (Nat.le_of_ble_eq_true rfl) rfl dX16_readKey_224 rfl (fun z_8 T_8 y_8 => ?_)
      obtain ⟨rfl, u_8, y_8⟩ := y_8
      obtain ⟨v_8, e_8⟩ : ∃ v, v = beN g 33 % pP := ⟨_, rfl⟩
      have c_8 : cvR T_8 (va_up (va_up (va_up (va_up (va_up (va_up R 312 v_2) 323 v_3) 323 v_4) 323 v_5) 314 v_6) 313 v_8) := by rw [e_8]; exact y_8
      have o_8 := u_8.at o_7 (by decide)
      clear y_8
      have p311_8 : T_8.2.2 311 = some (.inr (17, [.ref 312, .ref 313, .ref 314])) := c_8.2.2.2.1
      have r_8 := c_8.1.1.1
      rw [Nat.mod_eq_of_lt hl2] at e_8
      refine ks_aload_n dX16_readKey_227 rfl rfl ?_
      refine ks_getf (T := TX16) (kf := 15) kx_2383 rfl in_X16 cl_X16 (by decide) o_8 rfl dX16_readKey_228 rfl ?_
      refine ks_aload_n dX16_readKey_231 rfl rfl ?_
      refine ks_getf (T := TX16) (kf := 19) kx_2387 rfl in_X16 cl_X16 (by decide) o_8 rfl dX16_readKey_232 rfl ?_
      refine ks_getN (T := TX14) (kf := 1) kx_1795 rfl in_X14 cl_X14 (by decide) p311_8 rfl dX16_readKey_235 rfl ?_
      refine ks_aload_n dX16_readKey_238 rfl rfl ?_
      refine ks_getf (T := TX16) (kf := 19) kx_2387 rfl in_X16 cl_X16 (by decide) o_8 rfl dX16_readKey_239 rfl ?_
      refine ks_getN (T := TX14) (kf := 1) kx_1795 rfl in_X14 cl_X14 (by decide) p311_8 rfl dX16_readKey_242 rfl ?_
      refine ks_aload_n dX16_readKey_245 rfl rfl ?_
      refine ks_getf (T := TX16) (kf := 23) kx_2391 rfl in_X16 cl_X16 (by decide) o_8 rfl dX16_readKey_246 rfl ?_
      refine ks_callV (n := 3) (M' := mX15_multiply) (c_fm (d := (d + 1)) (a := 313) (b := 313) (t := 324) c_8 (by decide) (by decide) (by decide)) r_8 cl_X15 rfl kx_2285 kx_1922 kx_1923 kx_33 kx_1924 (by decide +kernel) rfl (by decide) (Nat.le_of_ble_eq_true rfl) rfl dX16_readKey_249 rfl (fun z_9 T_9 y_9 => ?_)
      obtain ⟨rfl, u_9, y_9⟩ := y_9
      obtain ⟨v_9, e_9⟩ : ∃ v, v = mM v_8 v_8 := ⟨_, rfl⟩
      have c_9 : cvR T_9 (va_up (va_up (va_up (va_up (va_up (va_up (va_up R 312 v_2) 323 v_3) 323 v_4) 323 v_5) 314 v_6) 313 v_8) 324 v_9) := by rw [e_9]; exact y_9
      have o_9 := u_9.at o_8 (by decide)
      clear y_9
      have p311_9 : T_9.2.2 311 = some (.inr (17, [.ref 312, .ref 313, .ref 314])) := c_9.2.2.2.1
      have r_9 := c_9.1.1.1
      refine ks_aload_n dX16_readKey_252 rfl rfl ?_
      refine ks_getf (T := TX16) (kf := 22) kx_2390 rfl in_X16 cl_X16 (by decide) o_9 rfl dX16_readKey_253 rfl ?_
      refine ks_aload_n dX16_readKey_256 rfl rfl ?_
      refine ks_getf (T := TX16) (kf := 23) kx_2391 rfl in_X16 cl_X16 (by decide) o_9 rfl dX16_readKey_257 rfl ?_
      refine ks_callS (n := 2) (M' := mX15_same) (c_fe (d := d + 1) (a := 323) (b := 324) c_9 (by decide) (by decide)) kx_2287 kx_2288 kx_33 kx_2289 (by decide +kernel) rfl (by decide) (Nat.le_of_ble_eq_true rfl) rfl dX16_readKey_260 rfl (fun z0 T0 y0 => ?_)
      obtain ⟨rfl, hT0⟩ := y0
      obtain rfl := hT0.symm
      refine ks_zret rfl (ks_bo_z _) dX16_readKey_263 ?_
      have e0 : decide (beN g 33 < pP ∧ ky3 (beN g 1) = mM (beN g 33) (beN g 33)) = decide (v_5 = v_9) := by
        rw [ea, e_9, e_8]
        exact decide_eq_decide.mpr ⟨fun h => h.2, fun h => ⟨hl2, h⟩⟩
      rw [e0]
      refine ⟨rfl, ((Us.trans (u_7.mono (by decide))).trans (u_8.mono (by decide))).trans (u_9.mono (by decide)), ⟨_, c_9, fun k hk hk2 => by rw [va_up_ne _ _ (by omega), va_up_ne _ _ (by omega), va_up_ne _ _ (by omega), va_up_ne _ _ (by omega), va_up_ne _ _ (by omega), va_up_ne _ _ (by omega), va_up_ne _ _ (by omega)], fun _ => ?_⟩, ⟨_, (xs7.up u_8 (by decide)).up u_9 (by decide)⟩, ⟨_, (w_7.up u_8 (by decide)).up u_9 (by decide)⟩⟩
      show (v_2, v_8, v_6) = _
      rw [e_2, e_8, e_6]
    · refine ks_iconst (x := nI 0) dX16_readKey_207 (by decide) rfl ?_
      refine ks_zret rfl rfl dX16_readKey_208 ?_
      have hl2 : ¬ beN g 33 < pP := fun h => h7b (cmpN_lt.mpr h)
      rw [decide_eq_false (fun h => hl2 h.1)]
      exact ⟨rfl, Us.trans (u_7.mono (by decide)), ⟨_, c_7, fun k hk hk2 => by rw [va_up_ne _ _ (by omega), va_up_ne _ _ (by omega), va_up_ne _ _ (by omega), va_up_ne _ _ (by omega), va_up_ne _ _ (by omega)], fun h => absurd h (by decide)⟩, ⟨_, xs7⟩, ⟨_, w_7⟩⟩
  · refine ks_iconst (x := nI 0) dX16_readKey_72 (by decide) rfl ?_
    refine ks_zret rfl rfl dX16_readKey_73 ?_
    have hl : ¬ beN g 1 < pP := fun h => h9 (cmpN_lt.mpr h)
    rw [decide_eq_false hl, Bool.false_and]
    exact ⟨rfl, u_1.mono (by decide), ⟨R, c_1, fun _ _ _ => rfl, fun h => absurd h (by decide)⟩, ⟨_, x_1⟩, ⟨_, hY.up u_1 (by decide)⟩⟩
set_option maxRecDepth 100000 in
set_option maxHeartbeats 800000 in
theorem c_md_readKey {l : Launch} {G : ks_G} {d : Nat} {S : ks_S} {V : Nat → Value} {R : Nat → Nat} {y N n X Y : Nat} {g : Nat → Nat} (hO : S.2.2 290 = some (rfE V)) (hC : cvR S R) (h7 : fX S 306 7) (hX : wA S 329 X) (hY : wA S 330 Y) (hy : S.2.2 y = some (kB N g)) (kg : kO g) (hn : n ≤ N) (hn1 : 1 ≤ n) (hN : N < 2 ^ 28) (hyn : y < 291 ∨ 335 < y) (hyr : y < 547 ∨ 554 < y) : ks_P l G yX16_readKey mX16_readKey (d + 3) [.ref 290, .ref y, .int (nI n)] S (fun z S' => z = some (.int (ks_bo (rykF g n))) ∧ ks_up S S' [552, 553, 554, 312, 313, 314, 323, 324, 325, 326, 329, 330] ∧ (∃ R', cvR S' R' ∧ (∀ k, k < 312 ∨ 314 < k → k < 323 → R' k = R k) ∧ (rykF g n = true → ptR R' 312 = (beN g 1, rykY g n, 1))) ∧ (∃ X, wA S' 329 X) ∧ (∃ Y, wA S' 330 Y)) := by
  have g0 := kg 0
  have no : ¬ rykS g n → ¬ (n = 65 ∧ g 0 = 4) → rykF g n = false := fun h1 h2 => by
    unfold rykF
    rw [if_neg h1, decide_eq_false (p := n = 65 ∧ _) (fun h => h2 ⟨h.1, h.2.1⟩), Bool.and_false]
  refine ks_of (by decide) rfl rfl (Nat.le_of_ble_eq_true rfl) ?_
  show ks_X l G mX16_readKey (d + 3) 0 [(0, .ref 290), (1, .ref y), (2, .int (nI n))] [] S _
  refine ks_iload_n dX16_readKey_0 rfl rfl ?_
  refine ks_bipush (x := nI 33) dX16_readKey_1 (by decide) rfl ?_
  refine ks_icmp_neN (tgt := 24) (by omega) (by decide) dX16_readKey_3 (by decide) rfl (fun hb1 => ?_) (fun hb1 => ?_)
  · refine ks_iconst (x := nI 0) dX16_readKey_24 (by decide) rfl ?_
    refine ks_istore_n dX16_readKey_25 (by decide) rfl ?_
    refine ks_sub [(3, _), (0, _), (1, _), (2, _)] rfl ?_
    refine ks_iload_n dX16_readKey_26 rfl rfl ?_
    refine ks_if_neN (tgt := 45) (by decide) dX16_readKey_27 (by decide) rfl (fun h => absurd h (by decide)) (fun _ => ?_)
    refine ks_iload_n dX16_readKey_30 rfl rfl ?_
    refine ks_bipush (x := nI 65) dX16_readKey_31 (by decide) rfl ?_
    refine ks_icmp_neN (tgt := 43) (by omega) (by decide) dX16_readKey_33 (by decide) rfl (fun hb2 => ?_) (fun hb2 => ?_)
    · refine ks_iconst (x := nI 0) dX16_readKey_43 (by decide) rfl ?_
      refine ks_zret rfl rfl dX16_readKey_44 ?_
      have e0 := no (by unfold rykS; omega) (by omega)
      rw [e0]
      exact ⟨rfl, ks_up.rf _ _, ⟨R, hC, fun _ _ _ => rfl, fun h => absurd h (by decide)⟩, ⟨X, hX⟩, ⟨Y, hY⟩⟩
    · refine ks_aload_n dX16_readKey_36 rfl rfl ?_
      refine ks_iconst (x := nI 0) dX16_readKey_37 (by decide) rfl ?_
      refine ks_baldB (i := 0) hy rfl (by omega) (by omega) dX16_readKey_38 rfl ?_
      refine ks_iconst (x := nI 4) dX16_readKey_39 (by decide) rfl ?_
      refine ks_icmp_eqYN (tgt := 45) (kg _) (by decide) dX16_readKey_40 (by decide) rfl (fun hb3 => ?_) (fun hb3 => ?_)
      · exact ks_sub [(0, _), (1, _), (2, _), (3, _)] rfl (l_readKeyW hO hC h7 hX hY hy kg hn hN hyn hyr (by unfold rykS; omega) (by omega))
      · refine ks_iconst (x := nI 0) dX16_readKey_43 (by decide) rfl ?_
        refine ks_zret rfl rfl dX16_readKey_44 ?_
        have e0 := no (by unfold rykS; omega) (by omega)
        rw [e0]
        exact ⟨rfl, ks_up.rf _ _, ⟨R, hC, fun _ _ _ => rfl, fun h => absurd h (by decide)⟩, ⟨X, hX⟩, ⟨Y, hY⟩⟩
  · refine ks_aload_n dX16_readKey_6 rfl rfl ?_
    refine ks_iconst (x := nI 0) dX16_readKey_7 (by decide) rfl ?_
    refine ks_baldB (i := 0) hy rfl (by omega) (by omega) dX16_readKey_8 rfl ?_
    refine ks_iconst (x := nI 2) dX16_readKey_9 (by decide) rfl ?_
    refine ks_icmp_eqYN (tgt := 20) (kg _) (by decide) dX16_readKey_10 (by decide) rfl (fun hb4 => ?_) (fun hb4 => ?_)
    · refine ks_iconst (x := nI 1) dX16_readKey_20 (by decide) rfl ?_
      refine ks_goto (tgt := 25) dX16_readKey_21 (by decide) ?_
      refine ks_istore_n dX16_readKey_25 (by decide) rfl ?_
      refine ks_sub [(3, _), (0, _), (1, _), (2, _)] rfl ?_
      refine ks_iload_n dX16_readKey_26 rfl rfl ?_
      refine ks_if_neN (tgt := 45) (by decide) dX16_readKey_27 (by decide) rfl (fun _ => ?_) (fun h => absurd h (by decide))
      exact ks_sub [(0, _), (1, _), (2, _), (3, _)] rfl (l_readKeyS hO hC h7 hX hY hy kg hn hN hyn hyr (by unfold rykS; omega))
    · refine ks_aload_n dX16_readKey_13 rfl rfl ?_
      refine ks_iconst (x := nI 0) dX16_readKey_14 (by decide) rfl ?_
      refine ks_baldB (i := 0) hy rfl (by omega) (by omega) dX16_readKey_15 rfl ?_
      refine ks_iconst (x := nI 3) dX16_readKey_16 (by decide) rfl ?_
      refine ks_icmp_neYN (tgt := 24) (kg _) (by decide) dX16_readKey_17 (by decide) rfl (fun hb5 => ?_) (fun hb5 => ?_)
      · refine ks_iconst (x := nI 0) dX16_readKey_24 (by decide) rfl ?_
        refine ks_istore_n dX16_readKey_25 (by decide) rfl ?_
        refine ks_sub [(3, _), (0, _), (1, _), (2, _)] rfl ?_
        refine ks_iload_n dX16_readKey_26 rfl rfl ?_
        refine ks_if_neN (tgt := 45) (by decide) dX16_readKey_27 (by decide) rfl (fun h => absurd h (by decide)) (fun _ => ?_)
        refine ks_iload_n dX16_readKey_30 rfl rfl ?_
        refine ks_bipush (x := nI 65) dX16_readKey_31 (by decide) rfl ?_
        refine ks_icmp_neN (tgt := 43) (by omega) (by decide) dX16_readKey_33 (by decide) rfl (fun hb6 => ?_) (fun hb6 => ?_)
        · refine ks_iconst (x := nI 0) dX16_readKey_43 (by decide) rfl ?_
          refine ks_zret rfl rfl dX16_readKey_44 ?_
          have e0 := no (by unfold rykS; omega) (by omega)
          rw [e0]
          exact ⟨rfl, ks_up.rf _ _, ⟨R, hC, fun _ _ _ => rfl, fun h => absurd h (by decide)⟩, ⟨X, hX⟩, ⟨Y, hY⟩⟩
        · refine ks_aload_n dX16_readKey_36 rfl rfl ?_
          refine ks_iconst (x := nI 0) dX16_readKey_37 (by decide) rfl ?_
          refine ks_baldB (i := 0) hy rfl (by omega) (by omega) dX16_readKey_38 rfl ?_
          refine ks_iconst (x := nI 4) dX16_readKey_39 (by decide) rfl ?_
          refine ks_icmp_eqYN (tgt := 45) (kg _) (by decide) dX16_readKey_40 (by decide) rfl (fun hb7 => ?_) (fun hb7 => ?_)
          · exact ks_sub [(0, _), (1, _), (2, _), (3, _)] rfl (l_readKeyW hO hC h7 hX hY hy kg hn hN hyn hyr (by unfold rykS; omega) (by omega))
          · refine ks_iconst (x := nI 0) dX16_readKey_43 (by decide) rfl ?_
            refine ks_zret rfl rfl dX16_readKey_44 ?_
            have e0 := no (by unfold rykS; omega) (by omega)
            rw [e0]
            exact ⟨rfl, ks_up.rf _ _, ⟨R, hC, fun _ _ _ => rfl, fun h => absurd h (by decide)⟩, ⟨X, hX⟩, ⟨Y, hY⟩⟩
      · refine ks_iconst (x := nI 1) dX16_readKey_20 (by decide) rfl ?_
        refine ks_goto (tgt := 25) dX16_readKey_21 (by decide) ?_
        refine ks_istore_n dX16_readKey_25 (by decide) rfl ?_
        refine ks_sub [(3, _), (0, _), (1, _), (2, _)] rfl ?_
        refine ks_iload_n dX16_readKey_26 rfl rfl ?_
        refine ks_if_neN (tgt := 45) (by decide) dX16_readKey_27 (by decide) rfl (fun _ => ?_) (fun h => absurd h (by decide))
        exact ks_sub [(0, _), (1, _), (2, _), (3, _)] rfl (l_readKeyS hO hC h7 hX hY hy kg hn hN hyn hyr (by unfold rykS; omega))
