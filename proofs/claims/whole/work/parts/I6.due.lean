/-! THE REFERENCE: due bits -/
theorem cmpN_le {A B : Nat} : cmpN A B ≤ 0 ↔ A ≤ B := by
  unfold cmpN
  by_cases h1 : A < B
  · rw [if_pos h1]; exact ⟨fun _ => Nat.le_of_lt h1, fun _ => by decide⟩
  · by_cases h2 : A = B
    · rw [if_neg h1, if_pos h2]; exact ⟨fun _ => Nat.le_of_eq h2, fun _ => by decide⟩
    · rw [if_neg h1, if_neg h2]; exact ⟨fun h => absurd h (by decide), fun h => by omega⟩
theorem ez_num : tg_num 545259519 = 8388607 * 2 ^ 232 := by decide +kernel
theorem tg_bitsH {X : Nat} (h1 : 8388607 * 2 ^ 232 ≤ X) (h2 : X < 2 ^ 255) : tg_bits X = 545259519 := by
  have e32 : tg_len X 34 = 32 := by
    rw [tg_len, if_pos (show X < 256 ^ 33 by omega), tg_len, if_pos (show X < 256 ^ 32 by omega), tg_len, if_neg (show ¬ X < 256 ^ 31 by omega)]
  have ew : tg_w X 32 = 8388607 := by
    unfold tg_w
    omega
  unfold tg_bits
  rw [e32, ew]
  decide
theorem due_bits (X : Nat) : tg_bits (if 2 ^ 256 ≤ X ∨ tg_num 545259519 < X then tg_num 545259519 else X) = tg_bits (if 2 ^ 255 ≤ X then tg_num 545259519 else X) := by
  have e := ez_num
  by_cases h1 : 2 ^ 255 ≤ X
  · rw [if_pos h1, if_pos (by omega)]
  · rw [if_neg h1]
    by_cases h2 : tg_num 545259519 < X
    · rw [if_pos (Or.inr h2), tg_bitsH (by omega) (by omega), tg_bitsH (by omega) (by omega)]
    · rw [if_neg (by omega)]
theorem ld_step {H W b D : Nat} (hD : 0 < D) : (H * W + b) % D = (H % D * W + b) % D ∧ (H * W + b) / D = (H % D * W + b) / D + W * (H / D) := by
  have e : H * W + b = D * (W * (H / D)) + (H % D * W + b) := by
    rw [Nat.mul_left_comm, Nat.mul_comm W, ← Nat.add_assoc, ← Nat.add_mul, Nat.div_add_mod]
  rw [e, Nat.mul_add_mod, Nat.mul_add_div hD]
  exact ⟨rfl, Nat.add_comm _ _⟩
set_option maxRecDepth 100000 in
set_option maxHeartbeats 800000 in
theorem l_dueEnd {l : Launch} {G : ks_G} {d : Nat} {S : ks_S} {V : Nat → Value} (hO : S.2.2 290 = some (rfE V)) (h337 : wA S 337 (tg_num 545259519)) {x z2 b X : Nat} {sp : Int64} {N : Nat} {gw : Nat → Nat} {P : Option Value → ks_S → Prop} (hNb : N < 2 ^ 256) (hX : X = N * tg_f sp / 4800) (h345 : S.2.2 345 = some (kN 10 gw)) (bw : ∀ j, j < 9 → gw j < 4294967296) (dw : dg 4294967296 gw 9 = X) (h338 : wA S 338 (dg 4294967296 gw 8)) (hk : ∀ S' Y, ks_up S S' [338, 345] → wA S' 338 Y → (∃ f, S'.2.2 345 = some (kN 10 f)) → P (some (.int (nI (tg_bits (tg_str N sp))))) S') : ks_X l G mX16_due (d + 2) 246 [(0, .ref 290), (1, .int (nI x)), (2, .int (nI z2)), (3, .int (nI b))] [] S P := by
  have d9 : dg 4294967296 gw 8 + gw 8 * 4294967296 ^ 8 = X := by rw [← dw]; exact (dg_s _ _ _).symm
  have l8 : dg 4294967296 gw 8 < 4294967296 ^ 8 := dg_lt (fun k hk => bw k (by omega))
  have e8 : (4294967296 : Nat) ^ 8 = 2 ^ 256 := by decide
  have b8 := bw 8 (by decide)
  obtain ⟨-, f2, -⟩ := tg_fl sp
  have hm9 : N * tg_f sp ≤ 2 ^ 256 * 19200 := Nat.mul_le_mul (Nat.le_of_lt hNb) f2
  have hXb : X ≤ 2 ^ 258 := by rw [hX]; omega
  have b8' : gw 8 < 2147483648 := by omega
  have eS : tg_str N sp = if 2 ^ 255 ≤ X then tg_num 545259519 else X := by rw [hX]; rfl
  have big : ∀ T, ks_up S T [338, 345] → wA T 338 (tg_num 545259519) → (∃ f, T.2.2 345 = some (kN 10 f)) → (2 ^ 256 ≤ X ∨ tg_num 545259519 < X) → ks_X l G mX16_due (d + 2) 281 [(0, .ref 290), (1, .int (nI x)), (2, .int (nI z2)), (3, .int (nI b))] [] T P := by
    intro T hu w3 w4 hx
    have o3 := hu.at hO (by decide)
    refine ks_aload_n dX16_due_281 rfl rfl ?_
    refine ks_getf (T := TX16) (kf := 43) kx_2411 rfl in_X16 cl_X16 (by decide) o3 rfl dX16_due_282 rfl ?_
    refine ks_callS (n := 1) (M' := mX16_bits) (c_md_bits (d := d) w3 (by decide)) kx_2036 kx_2037 kx_30 kx_2038 (by decide +kernel) rfl (by decide) (Nat.le_of_ble_eq_true rfl) rfl dX16_due_285 rfl (fun z3 T3 y3 => ?_)
    obtain ⟨rfl, hT3⟩ := y3
    obtain rfl := hT3.symm
    refine ks_iret rfl dX16_due_288 ?_
    have e9 := due_bits X
    rw [if_pos hx] at e9
    rw [e9, ← eS]
    exact hk _ _ hu w3 w4
  have ov : (2 ^ 256 ≤ X ∨ tg_num 545259519 < X) → ks_X l G mX16_due (d + 2) 270 [(0, .ref 290), (1, .int (nI x)), (2, .int (nI z2)), (3, .int (nI b))] [] S P := by
    intro hx
    refine ks_aload_n dX16_due_270 rfl rfl ?_
    refine ks_getf (T := TX16) (kf := 42) kx_2410 rfl in_X16 cl_X16 (by decide) hO rfl dX16_due_271 rfl ?_
    refine ks_aload_n dX16_due_274 rfl rfl ?_
    refine ks_getf (T := TX16) (kf := 43) kx_2411 rfl in_X16 cl_X16 (by decide) hO rfl dX16_due_275 rfl ?_
    refine ks_callS (n := 2) (M' := mX15_copy) (c_rg_copy (d := d + 1) h337 h338 (by decide)) kx_1945 kx_1876 kx_33 kx_1877 (by decide +kernel) rfl (by decide) (Nat.le_of_ble_eq_true rfl) rfl dX16_due_278 rfl (fun z3 T3 y3 => ?_)
    obtain ⟨rfl, u3, w3⟩ := y3
    exact big T3 (u3.mono (by decide)) w3 ⟨_, u3.at h345 (by decide)⟩ hx
  refine ks_aload_n dX16_due_246 rfl rfl ?_
  refine ks_getf (T := TX16) (kf := 54) kx_2422 rfl in_X16 cl_X16 (by decide) hO rfl dX16_due_247 rfl ?_
  refine ks_bipush (x := nI 8) dX16_due_250 (by decide) rfl ?_
  refine ks_ialdN (i := 8) h345 rfl (by decide) (by decide) dX16_due_252 rfl ?_
  refine ks_if_neN (tgt := 270) (by omega) dX16_due_253 (by decide) rfl (fun h1 => ?_) (fun h1 => ?_)
  · exact ov (Or.inl (by omega))
  · refine ks_aload_n dX16_due_256 rfl rfl ?_
    refine ks_getf (T := TX16) (kf := 43) kx_2411 rfl in_X16 cl_X16 (by decide) hO rfl dX16_due_257 rfl ?_
    refine ks_aload_n dX16_due_260 rfl rfl ?_
    refine ks_getf (T := TX16) (kf := 42) kx_2410 rfl in_X16 cl_X16 (by decide) hO rfl dX16_due_261 rfl ?_
    refine ks_callS (n := 2) (M' := mX15_compare) (c_rg_compare (d := d + 1) h338 h337 (by decide) (by decide)) kx_2035 kx_1870 kx_33 kx_1871 (by decide +kernel) rfl (by decide) (Nat.le_of_ble_eq_true rfl) rfl dX16_due_264 rfl (fun z2 T2 y2 => ?_)
    obtain ⟨rfl, hT2⟩ := y2
    obtain rfl := hT2.symm
    refine ks_if_le (tgt := 281) dX16_due_267 (by decide) rfl (fun h2 => ?_) (fun h2 => ?_)
    · have h3 := cmpN_le.mp h2
      refine ks_aload_n dX16_due_281 rfl rfl ?_
      refine ks_getf (T := TX16) (kf := 43) kx_2411 rfl in_X16 cl_X16 (by decide) hO rfl dX16_due_282 rfl ?_
      refine ks_callS (n := 1) (M' := mX16_bits) (c_md_bits (d := d) h338 (by decide)) kx_2036 kx_2037 kx_30 kx_2038 (by decide +kernel) rfl (by decide) (Nat.le_of_ble_eq_true rfl) rfl dX16_due_285 rfl (fun z3 T3 y3 => ?_)
      obtain ⟨rfl, hT3⟩ := y3
      obtain rfl := hT3.symm
      refine ks_iret rfl dX16_due_288 ?_
      have e9 := due_bits X
      have e7 : dg 4294967296 gw 8 = X := by omega
      rw [if_neg (by omega)] at e9
      rw [e7, e9, ← eS]
      exact hk _ _ (ks_up.rf _ _) h338 ⟨_, h345⟩
    · exact ov (Or.inr (by have := mt cmpN_le.mpr h2; omega))
set_option maxRecDepth 100000 in
set_option maxHeartbeats 1600000 in
theorem l_dueMul {l : Launch} {G : ks_G} {d : Nat} {S : ks_S} {V : Nat → Value} (hO : S.2.2 290 = some (rfE V)) (h337 : wA S 337 (tg_num 545259519)) {x z2 b X0 : Nat} {sp : Int64} {gw : Nat → Nat} {P : Option Value → ks_S → Prop} (hb : b < 2 ^ 32) (h345 : S.2.2 345 = some (kN 10 gw)) (h338 : wA S 338 X0) (hk : ∀ S' Y, ks_up S S' [338, 345] → wA S' 338 Y → (∃ f, S'.2.2 345 = some (kN 10 f)) → P (some (.int (nI (tg_bits (tg_str (tg_num b) sp))))) S') : ks_X l G mX16_due (d + 2) 79 [(0, .ref 290), (1, .int (nI x)), (2, .int (nI z2)), (3, .int (nI b))] [.long (lN (tg_f sp))] S P := by
  obtain ⟨f1, f2, -⟩ := tg_fl sp
  obtain ⟨f, ef⟩ : ∃ f, f = tg_f sp := ⟨_, rfl⟩
  obtain ⟨N, eN⟩ : ∃ N, N = tg_num b := ⟨_, rfl⟩
  have hN : N < 2 ^ 256 := by rw [eN]; exact tg_num_lt b
  rw [← ef] at f1 f2 ⊢
  rw [← eN] at hk
  have third : ∀ (u i : Nat) (S1 : ks_S) (g1 gw : Nat → Nat) (c : Nat) (lf : Value), i + u = 8 → ks_up S S1 [338, 345] → S1.2.2 338 = some (kN 8 g1) → S1.2.2 345 = some (kN 10 gw) → (∀ j, j < 9 → gw j < 4294967296) → dg 4294967296 gw 9 = N * f / 4800 → (∀ j, j < i → g1 j = gw j) → ks_X l G mX16_due (d + 2) 219 [(0, .ref 290), (1, .int (nI x)), (2, .int (nI z2)), (3, .int (nI b)), (10, .int (nI i))] [] S1 P := by
    intro u
    induction u with
    | zero =>
      intro i S1 g1 gw c lf hi hu e1 e2 b2 d2 h1
      obtain rfl : i = 8 := hi
      have o1 := hu.at hO (by decide)
      refine ks_iload dX16_due_219 rfl rfl ?_
      refine ks_bipush (x := nI 8) dX16_due_221 (by decide) rfl ?_
      refine ks_icmp_geN (tgt := 246) (by decide) (by decide) dX16_due_223 (by decide) rfl (fun _ => ?_) (fun h => absurd h (by decide))
      refine ks_sub [(0, _), (1, _), (2, _), (3, _)] rfl (l_dueEnd (d := d) o1 (h337.up hu (by decide)) (X := N * f / 4800) (N := N) (sp := sp) hN (by rw [ef]) e2 b2 d2 ⟨g1, e1, fun j hj => by rw [h1 j hj]; exact b2 j (by omega), dg_congr h1⟩ (fun S' Y u9 => hk S' Y (hu.trans u9)))
    | succ u ih =>
      intro i S1 g1 gw c lf hi hu e1 e2 b2 d2 h1
      have o1 := hu.at hO (by decide)
      refine ks_iload dX16_due_219 rfl rfl ?_
      refine ks_bipush (x := nI 8) dX16_due_221 (by decide) rfl ?_
      refine ks_icmp_geN (tgt := 246) (by omega) (by decide) dX16_due_223 (by decide) rfl (fun h2 => absurd h2 (by omega)) (fun h2 => ?_)
      refine ks_aload_n dX16_due_226 rfl rfl ?_
      refine ks_getf (T := TX16) (kf := 43) kx_2411 rfl in_X16 cl_X16 (by decide) o1 rfl dX16_due_227 rfl ?_
      refine ks_iload dX16_due_230 rfl rfl ?_
      refine ks_aload_n dX16_due_232 rfl rfl ?_
      refine ks_getf (T := TX16) (kf := 54) kx_2422 rfl in_X16 cl_X16 (by decide) o1 rfl dX16_due_233 rfl ?_
      refine ks_iload dX16_due_236 rfl rfl ?_
      refine ks_ialdN (i := i) e2 rfl (by omega) (by decide) dX16_due_238 rfl ?_
      refine ks_iastNN (i := i) (v := gw i) (by decide) e1 (by omega) (by decide) dX16_due_239 rfl ?_
      refine ks_incN (c := 1) (e := i + 1) dX16_due_240 rfl (by decide) rfl (by decide) rfl ?_
      refine ks_sub [(10, _), (0, _), (1, _), (2, _), (3, _)] rfl ?_
      refine ks_goto (tgt := 219) dX16_due_243 (by decide) ?_
      refine ks_sub [(0, _), (1, _), (2, _), (3, _), (10, _)] rfl (ih (i + 1) _ (va_up g1 i (gw i)) gw c lf (by omega) (hu.trans (ks_up_set _ _ (by decide))) (ks_set_same _ _ _) ((ks_set_ne _ _ (by decide)).trans e2) b2 d2 (fun j hj => ?_))
      by_cases e : j = i
      · subst e; rw [va_up_self]
      · rw [va_up_ne _ _ e]; exact h1 j (by omega)
  have second : ∀ (k : Nat) (S1 : ks_S) (w1 : Nat → Nat) (H : Nat), k ≤ 9 → ks_up S S1 [338, 345] → (∃ g1, S1.2.2 338 = some (kN 8 g1)) → S1.2.2 345 = some (kN 10 w1) → (∀ j, j < 9 → w1 j < 4294967296) → dg 4294967296 w1 k + 4294967296 ^ k * H = N * f → dg 4294967296 (fun j => w1 (k + j)) (9 - k) = H / 4800 → ks_X l G mX16_due (d + 2) 163 [(0, .ref 290), (1, .int (nI x)), (2, .int (nI z2)), (3, .int (nI b)), (8, .long (lN (H % 4800))), (10, .int (nI k - 1))] [] S1 P := by
    intro k
    induction k with
    | zero =>
      intro S1 w1 H hk9 hu e1 e2 b2 d2 h2
      obtain ⟨g1, e1⟩ := e1
      refine ks_iload dX16_due_163 rfl rfl ?_
      refine ks_if_ltD (tgt := 216) (by omega) dX16_due_165 (by decide) rfl (fun _ => ?_) (fun h => absurd rfl h)
      refine ks_iconst (x := nI 0) dX16_due_216 (by decide) rfl ?_
      refine ks_istore dX16_due_217 (by decide) rfl ?_
      refine ks_sub [(10, _), (0, _), (1, _), (2, _), (3, _), (8, _)] rfl ?_
      have dH : H = N * f := by rw [← d2, Nat.pow_zero, Nat.one_mul]; exact (Nat.zero_add _).symm
      have d9 : dg 4294967296 w1 9 = N * f / 4800 := by rw [← dH, ← h2]; exact dg_congr (fun k _ => by rw [Nat.zero_add])
      exact ks_sub [(0, _), (1, _), (2, _), (3, _), (10, _)] rfl (third 8 0 S1 g1 w1 0 .null rfl hu e1 e2 b2 d9 (fun j h => absurd h (Nat.not_lt_zero _)))
    | succ k ih =>
      intro S1 w1 H hk9 hu e1 e2 b2 d2 h2
      have o1 := hu.at hO (by decide)
      rw [nI_D (by omega : 0 < k + 1), Nat.add_sub_cancel]
      have bk := b2 k (by omega)
      have rl : H % 4800 < 4800 := Nat.mod_lt _ (by decide)
      obtain ⟨l1, l2⟩ := ld_step (H := H) (W := 4294967296) (b := w1 k) (D := 4800) (by decide)
      obtain ⟨r, er⟩ : ∃ r, r = H % 4800 := ⟨_, rfl⟩
      rw [← er] at rl l1 l2 ⊢
      refine ks_iload dX16_due_163 rfl rfl ?_
      refine ks_if_ltN (tgt := 216) (by omega) dX16_due_165 (by decide) rfl ?_
      refine ks_lload dX16_due_168 rfl rfl ?_
      refine ks_bipush (x := nI 32) dX16_due_170 (by decide) rfl ?_
      refine ks_lshlN (k := 32) (by decide) dX16_due_172 rfl ?_
      refine ks_aload_n dX16_due_173 rfl rfl ?_
      refine ks_getf (T := TX16) (kf := 54) kx_2422 rfl in_X16 cl_X16 (by decide) o1 rfl dX16_due_174 rfl ?_
      refine ks_iload dX16_due_177 rfl rfl ?_
      refine ks_ialdN (i := k) e2 rfl (by omega) (by decide) dX16_due_179 rfl ?_
      refine ks_i2l dX16_due_180 rfl ?_
      refine ks_ldc2 dX16_due_181 kx_1953 rfl ?_
      refine ks_land dX16_due_184 rfl ?_
      refine ks_tl (y := lN (w1 k)) (low_l bk) ?_
      refine ks_lorN (a := r) (k := 32) (p := 2 ^ 32) rfl (by omega) (by omega) dX16_due_185 rfl ?_
      refine ks_lstore dX16_due_186 (by decide) rfl ?_
      refine ks_sub [(8, _), (0, _), (1, _), (2, _), (3, _), (10, _)] rfl ?_
      refine ks_aload_n dX16_due_188 rfl rfl ?_
      refine ks_getf (T := TX16) (kf := 54) kx_2422 rfl in_X16 cl_X16 (by decide) o1 rfl dX16_due_189 rfl ?_
      refine ks_iload dX16_due_192 rfl rfl ?_
      refine ks_lload dX16_due_194 rfl rfl ?_
      refine ks_ldc2 dX16_due_196 kx_2034 rfl ?_
      refine ks_tl (y := lN 4800) rfl ?_
      refine ks_ldivN (by omega) (by decide) (by decide) (by decide) dX16_due_199 rfl ?_
      refine ks_l2iN dX16_due_200 rfl ?_
      refine ks_iastNN (i := k) (v := (r * 2 ^ 32 + (w1 k)) / 4800) (by decide) e2 (by omega) (by decide) dX16_due_201 rfl ?_
      refine ks_lload dX16_due_202 rfl rfl ?_
      refine ks_ldc2 dX16_due_204 kx_2034 rfl ?_
      refine ks_tl (y := lN 4800) rfl ?_
      refine ks_lremN (by omega) (by decide) (by decide) (by decide) dX16_due_207 rfl ?_
      refine ks_lstore dX16_due_208 (by decide) rfl ?_
      refine ks_sub [(8, _), (0, _), (1, _), (2, _), (3, _), (10, _)] rfl ?_
      refine ks_incD dX16_due_210 rfl (by decide) (by decide) rfl ?_
      refine ks_sub [(10, _), (0, _), (1, _), (2, _), (3, _), (8, _)] rfl ?_
      refine ks_goto (tgt := 163) dX16_due_213 (by decide) ?_
      have e32 : (2 : Nat) ^ 32 = 4294967296 := by decide
      have qd : (r * 2 ^ 32 + w1 k) / 4800 < 4294967296 := by omega
      have er9 : (r * 2 ^ 32 + w1 k) % 4800 = (H * 4294967296 + w1 k) % 4800 := l1.symm
      rw [er9]
      have dk : dg 4294967296 w1 k + 4294967296 ^ k * (H * 4294967296 + w1 k) = N * f := by
        rw [← d2, dg_s, Nat.pow_succ, Nat.mul_add, Nat.mul_comm H, ← Nat.mul_assoc, Nat.mul_comm (w1 k)]
        omega
      refine ks_sub [(0, _), (1, _), (2, _), (3, _), (8, _), (10, _)] rfl (ih _ (va_up w1 k ((r * 2 ^ 32 + w1 k) / 4800)) (H * 4294967296 + w1 k) (by omega) (hu.trans (ks_up_set _ _ (by decide))) ⟨_, (ks_set_ne _ _ (by decide)).trans e1.choose_spec⟩ (ks_set_same _ _ _) (fun j hj => ?_) ?_ ?_)
      · by_cases e : j = k
        · subst e; rw [va_up_self]; exact qd
        · rw [va_up_ne _ _ e]; exact b2 j hj
      · rw [dg_up_out (Nat.le_refl _)]; exact dk
      · obtain ⟨m, hm⟩ : ∃ m, 9 - k = m + 1 := ⟨8 - k, by omega⟩
        have hm2 : 9 - (k + 1) = m := by omega
        rw [hm2] at h2
        rw [hm, dg_c, Nat.add_zero, va_up_self, l2, ← h2, e32]
        congr 2
        refine dg_congr (fun j _ => ?_)
        rw [va_up_ne _ _ (by omega), Nat.add_right_comm, ← Nat.add_assoc]
  have first : ∀ (u i c : Nat) (S1 : ks_S) (g1 w1 : Nat → Nat), i + u = 8 → ks_up S S1 [338, 345] → S1.2.2 338 = some (kN 8 g1) → (∀ j, j < 8 → g1 j < 4294967296) → dg 4294967296 g1 8 = N → S1.2.2 345 = some (kN 10 w1) → (∀ j, j < i → w1 j < 4294967296) → c < 19200 → dg 4294967296 w1 i + 4294967296 ^ i * c = dg 4294967296 g1 i * f → ks_X l G mX16_due (d + 2) 96 [(0, .ref 290), (1, .int (nI x)), (2, .int (nI z2)), (3, .int (nI b)), (4, .long (lN f)), (6, .long (lN c)), (8, .int (nI i))] [] S1 P := by
    intro u
    induction u with
    | zero =>
      intro i c S1 g1 w1 hi hu e1 b1 d1 e2 b2 hc hd
      obtain rfl : i = 8 := hi
      have o1 := hu.at hO (by decide)
      refine ks_iload dX16_due_96 rfl rfl ?_
      refine ks_bipush (x := nI 8) dX16_due_98 (by decide) rfl ?_
      refine ks_icmp_geN (tgt := 146) (by decide) (by decide) dX16_due_100 (by decide) rfl (fun _ => ?_) (fun h => absurd h (by decide))
      refine ks_aload_n dX16_due_146 rfl rfl ?_
      refine ks_getf (T := TX16) (kf := 54) kx_2422 rfl in_X16 cl_X16 (by decide) o1 rfl dX16_due_147 rfl ?_
      refine ks_bipush (x := nI 8) dX16_due_150 (by decide) rfl ?_
      refine ks_lload dX16_due_152 rfl rfl ?_
      refine ks_l2iN dX16_due_154 rfl ?_
      refine ks_iastNN (i := 8) (v := c) (by decide) e2 (by decide) (by decide) dX16_due_155 rfl ?_
      refine ks_lconst (x := lN 0) dX16_due_156 (by decide) rfl ?_
      refine ks_lstore dX16_due_157 (by decide) rfl ?_
      refine ks_sub [(8, _), (0, _), (1, _), (2, _), (3, _), (4, _), (6, _)] rfl ?_
      refine ks_bipush (x := nI 8) dX16_due_159 (by decide) rfl ?_
      refine ks_istore dX16_due_161 (by decide) rfl ?_
      refine ks_sub [(10, _), (0, _), (1, _), (2, _), (3, _), (4, _), (6, _), (8, _)] rfl ?_
      rw [d1] at hd
      refine ks_sub [(0, _), (1, _), (2, _), (3, _), (8, .long (lN (0 % 4800))), (10, .int (nI 9 - 1))] rfl (second 9 _ (va_up w1 8 c) 0 (by decide) (hu.trans (ks_up_set _ _ (by decide))) ⟨g1, (ks_set_ne _ _ (by decide)).trans e1⟩ (ks_set_same _ _ _) (fun j hj => ?_) ?_ rfl)
      · by_cases e : j = 8
        · subst e; rw [va_up_self]; omega
        · rw [va_up_ne _ _ e]; exact b2 j (by omega)
      · rw [dg_s, va_up_self, dg_up_out (Nat.le_refl _), Nat.mul_zero, Nat.add_zero, ← hd, Nat.mul_comm c]
    | succ u ih =>
      intro i c S1 g1 w1 hi hu e1 b1 d1 e2 b2 hc hd
      have o1 := hu.at hO (by decide)
      have bi := b1 i (by omega)
      obtain ⟨m, em⟩ : ∃ m, m = g1 i * f := ⟨_, rfl⟩
      have mb : m ≤ 4294967295 * 19200 := by rw [em]; exact Nat.mul_le_mul (by omega) f2
      have mb2 : m ≤ 4294967295 * f := by rw [em]; exact Nat.mul_le_mul_right _ (by omega)
      refine ks_iload dX16_due_96 rfl rfl ?_
      refine ks_bipush (x := nI 8) dX16_due_98 (by decide) rfl ?_
      refine ks_icmp_geN (tgt := 146) (by omega) (by decide) dX16_due_100 (by decide) rfl (fun h2 => absurd h2 (by omega)) (fun h2 => ?_)
      refine ks_lload dX16_due_103 rfl rfl ?_
      refine ks_aload_n dX16_due_105 rfl rfl ?_
      refine ks_getf (T := TX16) (kf := 43) kx_2411 rfl in_X16 cl_X16 (by decide) o1 rfl dX16_due_106 rfl ?_
      refine ks_iload dX16_due_109 rfl rfl ?_
      refine ks_ialdN (i := i) e1 rfl (by omega) (by decide) dX16_due_111 rfl ?_
      refine ks_i2l dX16_due_112 rfl ?_
      refine ks_ldc2 dX16_due_113 kx_1953 rfl ?_
      refine ks_land dX16_due_116 rfl ?_
      refine ks_tl (y := lN (g1 i)) (low_l bi) ?_
      refine ks_lload dX16_due_117 rfl rfl ?_
      refine ks_lmulN dX16_due_119 rfl ?_
      rw [← em]
      refine ks_laddN dX16_due_120 rfl ?_
      refine ks_lstore dX16_due_121 (by decide) rfl ?_
      refine ks_sub [(6, _), (0, _), (1, _), (2, _), (3, _), (4, _), (8, _)] rfl ?_
      refine ks_aload_n dX16_due_123 rfl rfl ?_
      refine ks_getf (T := TX16) (kf := 54) kx_2422 rfl in_X16 cl_X16 (by decide) o1 rfl dX16_due_124 rfl ?_
      refine ks_iload dX16_due_127 rfl rfl ?_
      refine ks_lload dX16_due_129 rfl rfl ?_
      refine ks_l2iN dX16_due_131 rfl ?_
      refine ks_ti (y := nI ((c + m) % 4294967296)) (nI_mod _) ?_
      refine ks_iastNN (i := i) (v := (c + m) % 4294967296) (by decide) e2 (by omega) (by decide) dX16_due_132 rfl ?_
      refine ks_lload dX16_due_133 rfl rfl ?_
      refine ks_bipush (x := nI 32) dX16_due_135 (by decide) rfl ?_
      refine ks_lushrN (k := 32) (by decide) (by omega) dX16_due_137 rfl ?_
      refine ks_lstore dX16_due_138 (by decide) rfl ?_
      refine ks_sub [(6, _), (0, _), (1, _), (2, _), (3, _), (4, _), (8, _)] rfl ?_
      refine ks_incN (c := 1) (e := i + 1) dX16_due_140 rfl (by decide) rfl (by decide) rfl ?_
      refine ks_sub [(8, _), (0, _), (1, _), (2, _), (3, _), (4, _), (6, _)] rfl ?_
      refine ks_goto (tgt := 96) dX16_due_143 (by decide) ?_
      have hcy := dg_cy (X := dg 4294967296 g1 i * f) (o := va_up w1 i ((c + m) % 4294967296)) (t := m) (by rw [dg_up_out (Nat.le_refl _)]; exact hd) (va_up_self _ _ _)
      refine ks_sub [(0, _), (1, _), (2, _), (3, _), (4, _), (6, _), (8, _)] rfl (ih (i + 1) ((c + m) / 2 ^ 32) _ g1 (va_up w1 i ((c + m) % 4294967296)) (by omega) (hu.trans (ks_up_set _ _ (by decide))) ((ks_set_ne _ _ (by decide)).trans e1) b1 d1 (ks_set_same _ _ _) (fun j hj => ?_) (by omega) ?_)
      · by_cases e : j = i
        · subst e; rw [va_up_self]; exact Nat.mod_lt _ (by decide)
        · rw [va_up_ne _ _ e]; exact b2 j (by omega)
      · rw [show (2 : Nat) ^ 32 = 4294967296 by decide, hcy, dg_s, Nat.add_mul, em, Nat.mul_right_comm]
  refine ks_lstore dX16_due_79 (by decide) rfl ?_
  refine ks_sub [(4, _), (0, _), (1, _), (2, _), (3, _)] rfl ?_
  refine ks_iload_n dX16_due_81 rfl rfl ?_
  refine ks_aload_n dX16_due_82 rfl rfl ?_
  refine ks_getf (T := TX16) (kf := 43) kx_2411 rfl in_X16 cl_X16 (by decide) hO rfl dX16_due_83 rfl ?_
  refine ks_callS (n := 2) (M' := mX16_target) (c_md_target (d := d + 1) hb h338 (by decide)) kx_1947 kx_1948 kx_30 kx_1949 (by decide +kernel) rfl (by decide) (Nat.le_of_ble_eq_true rfl) rfl dX16_due_86 rfl (fun z2 T2 y2 => ?_)
  obtain ⟨rfl, u2, v2⟩ := y2
  rw [← eN] at v2
  obtain ⟨g2, e2, b2, d2⟩ := v2
  refine ks_pop dX16_due_89 rfl rfl ?_
  refine ks_lconst (x := lN 0) dX16_due_90 (by decide) rfl ?_
  refine ks_lstore dX16_due_91 (by decide) rfl ?_
  refine ks_sub [(6, _), (0, _), (1, _), (2, _), (3, _), (4, _)] rfl ?_
  refine ks_iconst (x := nI 0) dX16_due_93 (by decide) rfl ?_
  refine ks_istore dX16_due_94 (by decide) rfl ?_
  refine ks_sub [(8, _), (0, _), (1, _), (2, _), (3, _), (4, _), (6, _)] rfl ?_
  exact ks_sub [(0, _), (1, _), (2, _), (3, _), (4, _), (6, _), (8, _)] rfl (first 8 0 0 T2 g2 gw rfl (u2.mono (by decide)) e2 b2 d2 (u2.at h345 (by decide)) (fun j h => absurd h (Nat.not_lt_zero _)) (by decide) (by rw [Nat.mul_zero]; exact (Nat.zero_mul _).symm))
set_option maxRecDepth 100000 in
set_option maxHeartbeats 800000 in
theorem c_md_due {l : Launch} {G : ks_G} {d : Nat} {S : ks_S} {V : Nat → Value} {n : Nat} {B : Nat → Bk} (hO : S.2.2 290 = some (rfE V)) (hR : rbS S n B) {x X0 : Nat} {gw : Nat → Nat} (hx : x < n) (hW : chW n B) (hH : rbH n B) (hhb : bkH (B x) < 2 ^ 30) (h337 : wA S 337 (tg_num 545259519)) (h345 : S.2.2 345 = some (kN 10 gw)) (h338 : wA S 338 X0) : ks_P l G yX16_due mX16_due (d + 2) [.ref 290, .int (nI x)] S (fun z S' => z = some (.int (nI (dueB B x))) ∧ ks_up S S' [338, 345] ∧ (∃ X, wA S' 338 X) ∧ ∃ f, S'.2.2 345 = some (kN 10 f)) := by
  obtain ⟨⟨bf, h341, hbf⟩, hB, hn61⟩ := id hR
  obtain ⟨ox, pdx, ⟨ghx, ehx, khx, ahx⟩, wkx, bdx⟩ := hB x (by omega)
  have hbt := (hB x hx).num
  obtain ⟨ux, hux⟩ : ∃ v, upN B 7 x = v := ⟨_, rfl⟩
  have hul : ux < n := by rw [← hux]; exact upN_lt hW hx
  have hbu := (hB ux hul).num
  have eD : dueB B x = if (bkH (B x) + 1) % 8 = 0 then tg_bits (tg_str (tg_num (btB (bkM (B x)))) (lN (tmB (bkM (B x))) - lN (tmB (bkM (B ux))))) else btB (bkM (B x)) := by unfold dueB; rw [hux]
  rw [eD]
  refine ks_of (by decide) rfl rfl (Nat.le_of_ble_eq_true rfl) ?_
  show ks_X l G mX16_due (d + 2) 0 [(0, .ref 290), (1, .int (nI x))] [] S _
  refine ks_aload_n dX16_due_0 rfl rfl ?_
  refine ks_getf (T := TX16) (kf := 46) kx_2414 rfl in_X16 cl_X16 (by decide) hO rfl dX16_due_1 rfl ?_
  refine ks_iload_n dX16_due_4 rfl rfl ?_
  refine ks_aaldN (i := x) (b := (bkN (B x))) (by decide) h341 rfl (by omega) (by decide) (hbf x (by omega)) dX16_due_5 rfl ?_
  refine ks_getN (T := TX12) (kf := 4) kx_2064 rfl in_X12 cl_X12 (by decide) ox rfl dX16_due_6 rfl ?_
  refine ks_iconst (x := nI 1) dX16_due_9 (by decide) rfl ?_
  refine ks_addN dX16_due_10 rfl ?_
  refine ks_istore_n dX16_due_11 (by decide) rfl ?_
  refine ks_sub [(2, _), (0, _), (1, _)] rfl ?_
  refine ks_aload_n dX16_due_12 rfl rfl ?_
  refine ks_iload_n dX16_due_13 rfl rfl ?_
  refine ks_callV (n := 1) (M' := mX16_bitsOf) (c_md_bitsOf (d := d) hO hR hx) hO cl_X16 rfl kx_2016 kx_2018 kxp_67 kx_30 kx_2019 (by decide +kernel) rfl (by decide) (Nat.le_of_ble_eq_true rfl) rfl dX16_due_14 rfl (fun z1 T1 y1 => ?_)
  obtain ⟨rfl, hT1⟩ := y1
  obtain rfl := hT1.symm
  refine ks_l2iN dX16_due_17 rfl ?_
  refine ks_istore_n dX16_due_18 (by decide) rfl ?_
  refine ks_sub [(3, _), (0, _), (1, _), (2, _)] rfl ?_
  refine ks_iload_n dX16_due_19 rfl rfl ?_
  refine ks_bipush (x := nI 8) dX16_due_20 (by decide) rfl ?_
  refine ks_remN (by omega) (by decide) (by decide) dX16_due_22 rfl ?_
  refine ks_if_eqN (tgt := 28) (by omega) dX16_due_23 (by decide) rfl (fun h1 => ?_) (fun h1 => ?_)
  · rw [if_pos h1]
    refine ks_aload_n dX16_due_28 rfl rfl ?_
    refine ks_iload_n dX16_due_29 rfl rfl ?_
    refine ks_callV (n := 1) (M' := mX16_timeOf) (c_md_timeOf (d := d) hO hR hx) hO cl_X16 rfl kx_2024 kx_2026 kxp_69 kx_30 kx_2027 (by decide +kernel) rfl (by decide) (Nat.le_of_ble_eq_true rfl) rfl dX16_due_30 rfl (fun z2 T2 y2 => ?_)
    obtain ⟨rfl, hT2⟩ := y2
    obtain rfl := hT2.symm
    refine ks_aload_n dX16_due_33 rfl rfl ?_
    refine ks_aload_n dX16_due_34 rfl rfl ?_
    refine ks_iload_n dX16_due_35 rfl rfl ?_
    refine ks_bipush (x := nI 7) dX16_due_36 (by decide) rfl ?_
    refine ks_callV (n := 2) (M' := mX16_up) (c_md_up (d := d + 1) hO hR (c := 7) hx hW hH (by omega) (by decide)) hO cl_X16 rfl kx_2028 kx_2030 kxp_70 kx_30 kx_2031 (by decide +kernel) rfl (by decide) (Nat.le_of_ble_eq_true rfl) rfl dX16_due_38 rfl (fun z3 T3 y3 => ?_)
    obtain ⟨rfl, hT3⟩ := y3
    obtain rfl := hT3.symm
    rw [hux]
    refine ks_callV (n := 1) (M' := mX16_timeOf) (c_md_timeOf (d := d) hO hR hul) hO cl_X16 rfl kx_2024 kx_2026 kxp_69 kx_30 kx_2027 (by decide +kernel) rfl (by decide) (Nat.le_of_ble_eq_true rfl) rfl dX16_due_41 rfl (fun z4 T4 y4 => ?_)
    obtain ⟨rfl, hT4⟩ := y4
    obtain rfl := hT4.symm
    refine ks_lsub dX16_due_44 rfl ?_
    obtain ⟨sp, esp⟩ : ∃ sp, sp = lN (tmB (bkM (B x))) - lN (tmB (bkM (B ux))) := ⟨_, rfl⟩
    rw [← esp]
    have tail := l_dueMul (l := l) (G := G) (d := d) (S := S) (P := fun z S' => z = some (.int (nI (tg_bits (tg_str (tg_num (btB (bkM (B x)))) sp)))) ∧ ks_up S S' [338, 345] ∧ (∃ X, wA S' 338 X) ∧ ∃ f, S'.2.2 345 = some (kN 10 f)) (x := x) (z2 := bkH (B x) + 1) (sp := sp) hO h337 hbt.1 h345 h338 (fun S' Y u9 w9 f9 => ⟨rfl, u9, ⟨_, w9⟩, f9⟩)
    refine ks_lstore dX16_due_45 (by decide) rfl ?_
    refine ks_sub [(4, _), (0, _), (1, _), (2, _), (3, _)] rfl ?_
    refine ks_lload dX16_due_47 rfl rfl ?_
    refine ks_ldc2 dX16_due_49 kx_2032 rfl ?_
    refine ks_tl (y := lN 1200) rfl ?_
    refine ks_lif_ge (tgt := 62) dX16_due_52 rfl dX16_due_53 (by decide) rfl (fun h2 => ?_) (fun h2 => ?_)
    · refine ks_lload dX16_due_62 rfl rfl ?_
      refine ks_ldc2 dX16_due_64 kx_2033 rfl ?_
      refine ks_tl (y := lN 19200) rfl ?_
      refine ks_lif_le (tgt := 77) dX16_due_67 rfl dX16_due_68 (by decide) rfl (fun h3 => ?_) (fun h3 => ?_)
      · refine ks_lload dX16_due_77 rfl rfl ?_
        have k1 : (lN 1200 : Int64) = 1200 := rfl
        have k2 : (lN 19200 : Int64) = 19200 := rfl
        rw [k1] at h2
        rw [k2] at h3
        have ef : sp = lN (tg_f sp) := by
          obtain ⟨-, -, e⟩ := tg_fl sp
          rw [k1, k2] at e
          by_cases h4 : sp < 19200
          · rw [if_pos h4, if_neg (Int64.not_lt.mpr h2)] at e; exact e
          · rw [if_neg h4, if_neg (by decide)] at e
            rw [← e]
            exact Int64.le_antisymm h3 (Int64.not_lt.mp h4)
        refine ks_tl (y := lN (tg_f sp)) ef ?_
        exact ks_sub [(0, _), (1, _), (2, _), (3, _)] rfl tail
      · refine ks_ldc2 dX16_due_71 kx_2033 rfl ?_
        refine ks_tl (y := lN 19200) rfl ?_
        refine ks_goto (tgt := 79) dX16_due_74 (by decide) ?_
        have k1 : (lN 1200 : Int64) = 1200 := rfl
        have k2 : (lN 19200 : Int64) = 19200 := rfl
        rw [k1] at h2
        rw [k2] at h3
        have ef : lN 19200 = lN (tg_f sp) := by
          obtain ⟨-, -, e⟩ := tg_fl sp
          rw [k1, k2, if_neg (fun h => h3 (Int64.le_of_lt h)), if_neg (by decide)] at e
          exact e
        rw [ef]
        exact ks_sub [(0, _), (1, _), (2, _), (3, _)] rfl tail
    · have ef : lN 1200 = lN (tg_f sp) := by
        unfold tg_f
        rw [if_pos (show sp < 1200 from Int64.not_le.mp h2)]
      refine ks_ldc2 dX16_due_56 kx_2032 rfl ?_
      refine ks_tl (y := lN 1200) rfl ?_
      refine ks_goto (tgt := 79) dX16_due_59 (by decide) ?_
      rw [ef]
      exact ks_sub [(0, _), (1, _), (2, _), (3, _)] rfl tail
  · refine ks_iload_n dX16_due_26 rfl rfl ?_
    refine ks_iret rfl dX16_due_27 ?_
    rw [if_neg h1]
    exact ⟨rfl, ks_up.rf _ _, ⟨_, h338⟩, _, h345⟩
