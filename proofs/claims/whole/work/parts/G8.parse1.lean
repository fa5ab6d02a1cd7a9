/-! THE REFERENCE: parse, its inputs and outputs -/
theorem lN_far {a : Nat} {x : Int64} (ha : a ≤ 65535) (hx : x < 0 ∨ lN 65535 < x) : x < 0 ∨ lN a < x := by
  rcases hx with h | h
  · exact Or.inl h
  · refine Or.inr (Int64.lt_of_le_of_lt ?_ h)
    by_cases e : a = 65535
    · subst e; exact Int64.le_refl _
    · exact Int64.le_of_lt ((pk_lLT (by omega) (by decide)).mpr (by omega))
set_option maxRecDepth 100000 in
set_option maxHeartbeats 1600000 in
theorem l_pIn {l : Launch} {G : ks_G} {d : Nat} {S0 : ks_S} {V0 : Nat → Value} {Q : Option Value → ks_S → Prop} {y N n k P t p0 : Nat} {g : Nat → Nat} (kg : kO g) (hnN : n ≤ N) (hN : N < 2 ^ 16) (hk : k ≤ 40) (hy0 : S0.2.2 y = some (kB N g)) (hy290 : y ≠ 290) (hc : ∀ S' V' p', psK S0 S' V0 V' → psO S' V' y n p' false → ip g n p0 k = some p' → ks_X l G mX16_parse (d + 2) 234 [(0, .ref 290), (1, .ref y), (2, .int (nI n)), (3, .ref P), (6, .int (nI t))] [] S' Q) (hf : ∀ S' V' p', psK S0 S' V0 V' → psO S' V' y n p' true → (ip g n p0 k = none ∨ ∃ b, ip g n p0 k = some b ∧ n < b) → Q (some (.int (nI 0))) S') : ∀ (u i : Nat) (S : ks_S) (V : Nat → Value) (p : Nat), i + u = k → psK S0 S V0 V → psO S V y n p false → ip g n p0 i = some p → ks_X l G mX16_parse (d + 2) 177 [(0, .ref 290), (1, .ref y), (2, .int (nI n)), (3, .ref P), (6, .int (nI t)), (7, .long (lN k)), (9, .int (nI i))] [] S Q := by
  intro u
  induction u with
  | zero =>
    intro i S V p hi K O hp
    obtain rfl : i = k := hi
    refine ks_iload dX16_parse_177 rfl rfl ?_
    refine ks_i2lN (by omega) dX16_parse_179 rfl ?_
    refine ks_lload dX16_parse_180 rfl rfl ?_
    refine ks_lif_geN (tgt := 234) (by omega) (by omega) dX16_parse_182 rfl dX16_parse_183 (by decide) rfl (fun h1 => ?_) (fun h1 => absurd h1 (by omega))
    exact ks_sub [(0, _), (1, _), (2, _), (3, _), (6, _)] rfl (hc S V p K O hp)
  | succ u ih =>
    intro i S V p hi K O hp
    have bad : ∀ S' V' p', psK S0 S' V0 V' → psO S' V' y n p' true → (ip g n p0 k = none ∨ ∃ b, ip g n p0 k = some b ∧ n < b) → ks_X l G mX16_parse (d + 2) 212 [(0, .ref 290), (1, .ref y), (2, .int (nI n)), (3, .ref P), (6, .int (nI t)), (7, .long (lN k)), (9, .int (nI i))] [] S' Q := by
      intro S' V' p' K' O' hz
      refine ks_aload_n dX16_parse_212 rfl rfl ?_
      refine ks_ldc2 dX16_parse_213 kx_2108 rfl ?_
      refine ks_tl (y := lN 4) rfl ?_
      refine ks_callV (n := 1) (M' := mX16_skip) (c_ps_skipA (d := d + 1) O' (by omega)) O'.1 cl_X16 rfl kx_2094 kx_2096 kxp_73 kx_30 kx_2097 (by decide +kernel) rfl (by decide) (Nat.le_of_ble_eq_true rfl) rfl dX16_parse_216 rfl (fun z9 T9 y9 => ?_)
      obtain ⟨rfl, V9, p9, K9, O9⟩ := y9
      refine ks_aload_n dX16_parse_219 rfl rfl ?_
      refine ks_getf (T := TX16) (kf := 39) kx_2407 rfl in_X16 cl_X16 (by decide) O9.1 rfl dX16_parse_220 rfl ?_
      refine ks_tv O9.2.2.2.2.1 ?_
      refine ks_if_eqZ (tgt := 228) dX16_parse_223 (by decide) rfl (fun h => absurd h (by decide)) (fun _ => ?_)
      refine ks_iconst (x := nI 0) dX16_parse_226 (by decide) rfl ?_
      refine ks_zret rfl rfl dX16_parse_227 ?_
      exact hf T9 V9 p9 (K'.trans K9) O9 hz
    refine ks_iload dX16_parse_177 rfl rfl ?_
    refine ks_i2lN (by omega) dX16_parse_179 rfl ?_
    refine ks_lload dX16_parse_180 rfl rfl ?_
    refine ks_lif_geN (tgt := 234) (by omega) (by omega) dX16_parse_182 rfl dX16_parse_183 (by decide) rfl (fun h1 => absurd h1 (by omega)) (fun h1 => ?_)
    refine ks_aload_n dX16_parse_186 rfl rfl ?_
    refine ks_ldc2 dX16_parse_187 kx_2110 rfl ?_
    refine ks_tl (y := lN 36) rfl ?_
    have pn := O.2.2.2.2.2
    by_cases hs : p + 36 ≤ n
    · refine ks_callV (n := 1) (M' := mX16_skip) (c_ps_skipN (d := d + 1) (m := 36) O (by omega) hs) O.1 cl_X16 rfl kx_2094 kx_2096 kxp_73 kx_30 kx_2097 (by decide +kernel) rfl (by decide) (Nat.le_of_ble_eq_true rfl) rfl dX16_parse_190 rfl (fun z1 T1 y1 => ?_)
      obtain ⟨rfl, V1, K1, O1⟩ := y1
      have ey := (K.trans K1).1.at hy0 (by rw [List.mem_singleton]; exact hy290)
      refine ks_aload_n dX16_parse_193 rfl rfl ?_
      refine ks_aload_n dX16_parse_194 rfl rfl ?_
      refine ks_getf (T := TX16) (kf := 39) kx_2407 rfl in_X16 cl_X16 (by decide) O1.1 rfl dX16_parse_195 rfl ?_
      refine ks_tv O1.2.2.2.2.1 ?_
      refine ks_if_eqZ (tgt := 205) dX16_parse_198 (by decide) rfl (fun _ => ?_) (fun h => absurd h (by decide))
      refine ks_aload_n dX16_parse_205 rfl rfl ?_
      refine ks_callV (n := 0) (M' := mX16_count) (c_ps_count (d := d) O1 ey kg hnN hN) O1.1 cl_X16 rfl kx_2098 kx_2100 kxp_74 kx_30 kx_2101 (by decide +kernel) rfl (by decide) (Nat.le_of_ble_eq_true rfl) rfl dX16_parse_206 rfl (fun z2 T2 y2 => ?_)
      obtain ⟨V2, q, K2, y2⟩ := y2
      have K02 := (K.trans K1).trans K2
      rcases y2 with ⟨v, v1, v2, rfl, O2, v3⟩ | ⟨x, x1, rfl, O2, x2⟩ | ⟨x, rfl, O2, x2⟩
      · have qn := O2.2.2.2.2.2
        have hr := v3 n (by omega)
        by_cases hq : q + v ≤ n
        · rw [if_pos (by omega)] at hr
          refine ks_callV (n := 1) (M' := mX16_skip) (c_ps_skipN (d := d + 1) (m := v) O2 (by omega) hq) O2.1 cl_X16 rfl kx_2094 kx_2096 kxp_73 kx_30 kx_2097 (by decide +kernel) rfl (by decide) (Nat.le_of_ble_eq_true rfl) rfl dX16_parse_209 rfl (fun z3 T3 y3 => ?_)
          obtain ⟨rfl, V3, K3, O3⟩ := y3
          refine ks_aload_n dX16_parse_212 rfl rfl ?_
          refine ks_ldc2 dX16_parse_213 kx_2108 rfl ?_
          refine ks_tl (y := lN 4) rfl ?_
          by_cases h4 : q + v + 4 ≤ n
          · refine ks_callV (n := 1) (M' := mX16_skip) (c_ps_skipN (d := d + 1) (m := 4) O3 (by omega) h4) O3.1 cl_X16 rfl kx_2094 kx_2096 kxp_73 kx_30 kx_2097 (by decide +kernel) rfl (by decide) (Nat.le_of_ble_eq_true rfl) rfl dX16_parse_216 rfl (fun z4 T4 y4 => ?_)
            obtain ⟨rfl, V4, K4, O4⟩ := y4
            refine ks_aload_n dX16_parse_219 rfl rfl ?_
            refine ks_getf (T := TX16) (kf := 39) kx_2407 rfl in_X16 cl_X16 (by decide) O4.1 rfl dX16_parse_220 rfl ?_
            refine ks_tv O4.2.2.2.2.1 ?_
            refine ks_if_eqZ (tgt := 228) dX16_parse_223 (by decide) rfl (fun _ => ?_) (fun h => absurd h (by decide))
            refine ks_incN (c := 1) (e := i + 1) dX16_parse_228 rfl (by decide) rfl (by decide) rfl ?_
            refine ks_sub [(9, _), (0, _), (1, _), (2, _), (3, _), (6, _), (7, _)] rfl ?_
            refine ks_goto (tgt := 177) dX16_parse_231 (by decide) ?_
            exact ks_sub [(0, _), (1, _), (2, _), (3, _), (6, _), (7, _), (9, _)] rfl (ih (i + 1) T4 V4 (q + v + 4) (by omega) ((K02.trans K3).trans K4) O4 (ip_s hp hr))
          · refine ks_callV (n := 1) (M' := mX16_skip) (c_ps_skipX (d := d + 1) (x := lN 4) O3 (by omega) (Or.inr ((pk_lLT (by omega) (by decide)).mpr (by omega)))) O3.1 cl_X16 rfl kx_2094 kx_2096 kxp_73 kx_30 kx_2097 (by decide +kernel) rfl (by decide) (Nat.le_of_ble_eq_true rfl) rfl dX16_parse_216 rfl (fun z4 T4 y4 => ?_)
            obtain ⟨rfl, V4, K4, O4⟩ := y4
            refine ks_aload_n dX16_parse_219 rfl rfl ?_
            refine ks_getf (T := TX16) (kf := 39) kx_2407 rfl in_X16 cl_X16 (by decide) O4.1 rfl dX16_parse_220 rfl ?_
            refine ks_tv O4.2.2.2.2.1 ?_
            refine ks_if_eqZ (tgt := 228) dX16_parse_223 (by decide) rfl (fun h => absurd h (by decide)) (fun _ => ?_)
            refine ks_iconst (x := nI 0) dX16_parse_226 (by decide) rfl ?_
            refine ks_zret rfl rfl dX16_parse_227 ?_
            exact hf T4 V4 _ ((K02.trans K3).trans K4) O4 (ip_far (ip_s hp hr) (by omega) k (by omega))
        · refine ks_callV (n := 1) (M' := mX16_skip) (c_ps_skipX (d := d + 1) (x := lN v) O2 (by omega) (Or.inr ((pk_lLT (by omega) (by omega)).mpr (by omega)))) O2.1 cl_X16 rfl kx_2094 kx_2096 kxp_73 kx_30 kx_2097 (by decide +kernel) rfl (by decide) (Nat.le_of_ble_eq_true rfl) rfl dX16_parse_209 rfl (fun z3 T3 y3 => ?_)
          obtain ⟨rfl, V3, K3, O3⟩ := y3
          refine ks_sub [(0, _), (1, _), (2, _), (3, _), (6, _), (7, _), (9, _)] rfl (bad T3 V3 q (K02.trans K3) O3 ?_)
          by_cases c : v ≤ n
          · rw [if_pos c] at hr
            exact ip_far (ip_s hp hr) (by omega) k (by omega)
          · rw [if_neg c] at hr
            exact Or.inl (ip_n hp hr k (by omega))
      · refine ks_callV (n := 1) (M' := mX16_skip) (c_ps_skipX (d := d + 1) O2 (by omega) (lN_far (by omega) x1)) O2.1 cl_X16 rfl kx_2094 kx_2096 kxp_73 kx_30 kx_2097 (by decide +kernel) rfl (by decide) (Nat.le_of_ble_eq_true rfl) rfl dX16_parse_209 rfl (fun z3 T3 y3 => ?_)
        obtain ⟨rfl, V3, K3, O3⟩ := y3
        exact ks_sub [(0, _), (1, _), (2, _), (3, _), (6, _), (7, _), (9, _)] rfl (bad T3 V3 q (K02.trans K3) O3 (Or.inl (ip_n hp (x2 n (by omega)) k (by omega))))
      · refine ks_callV (n := 1) (M' := mX16_skip) (c_ps_skipA (d := d + 1) O2 (by omega)) O2.1 cl_X16 rfl kx_2094 kx_2096 kxp_73 kx_30 kx_2097 (by decide +kernel) rfl (by decide) (Nat.le_of_ble_eq_true rfl) rfl dX16_parse_209 rfl (fun z3 T3 y3 => ?_)
        obtain ⟨rfl, V3, p3, K3, O3⟩ := y3
        exact ks_sub [(0, _), (1, _), (2, _), (3, _), (6, _), (7, _), (9, _)] rfl (bad T3 V3 p3 (K02.trans K3) O3 (Or.inl (ip_n hp (x2 n (by omega)) k (by omega))))
    · refine ks_callV (n := 1) (M' := mX16_skip) (c_ps_skipX (d := d + 1) (x := lN 36) O (by omega) (Or.inr ((pk_lLT (by omega) (by decide)).mpr (by omega)))) O.1 cl_X16 rfl kx_2094 kx_2096 kxp_73 kx_30 kx_2097 (by decide +kernel) rfl (by decide) (Nat.le_of_ble_eq_true rfl) rfl dX16_parse_190 rfl (fun z1 T1 y1 => ?_)
      obtain ⟨rfl, V1, K1, O1⟩ := y1
      refine ks_aload_n dX16_parse_193 rfl rfl ?_
      refine ks_aload_n dX16_parse_194 rfl rfl ?_
      refine ks_getf (T := TX16) (kf := 39) kx_2407 rfl in_X16 cl_X16 (by decide) O1.1 rfl dX16_parse_195 rfl ?_
      refine ks_tv O1.2.2.2.2.1 ?_
      refine ks_if_eqZ (tgt := 205) dX16_parse_198 (by decide) rfl (fun h => absurd h (by decide)) (fun _ => ?_)
      refine ks_lconst (x := lN 0) dX16_parse_201 (by decide) rfl ?_
      refine ks_goto (tgt := 209) dX16_parse_202 (by decide) ?_
      refine ks_callV (n := 1) (M' := mX16_skip) (c_ps_skipA (d := d + 1) O1 (by omega)) O1.1 cl_X16 rfl kx_2094 kx_2096 kxp_73 kx_30 kx_2097 (by decide +kernel) rfl (by decide) (Nat.le_of_ble_eq_true rfl) rfl dX16_parse_209 rfl (fun z3 T3 y3 => ?_)
      obtain ⟨rfl, V3, p3, K3, O3⟩ := y3
      refine ks_sub [(0, _), (1, _), (2, _), (3, _), (6, _), (7, _), (9, _)] rfl (bad T3 V3 p3 ((K.trans K1).trans K3) O3 (Or.inl (ip_n hp ?_ k (by omega))))
      unfold rc
      rw [if_pos (by omega)]
set_option maxRecDepth 100000 in
set_option maxHeartbeats 1600000 in
theorem l_pOut {l : Launch} {G : ks_G} {d : Nat} {S0 : ks_S} {V0 : Nat → Value} {Q : Option Value → ks_S → Prop} {y N n k P t p0 : Nat} {g : Nat → Nat} (kg : kO g) (hnN : n ≤ N) (hN : N < 2 ^ 16) (hk : k ≤ 180) (hy0 : S0.2.2 y = some (kB N g)) (hy290 : y ≠ 290) (hc : ∀ S' V' p', psK S0 S' V0 V' → psO S' V' y n p' false → ot g n p0 k = some p' → ks_X l G mX16_parse (d + 2) 339 [(0, .ref 290), (1, .ref y), (2, .int (nI n)), (3, .ref P), (6, .int (nI t))] [] S' Q) (hf : ∀ S' V' p', psK S0 S' V0 V' → psO S' V' y n p' true → (ot g n p0 k = none ∨ ∃ b, ot g n p0 k = some b ∧ n < b) → Q (some (.int (nI 0))) S') : ∀ (u i : Nat) (S : ks_S) (V : Nat → Value) (p : Nat), i + u = k → psK S0 S V0 V → psO S V y n p false → ot g n p0 i = some p → ks_X l G mX16_parse (d + 2) 289 [(0, .ref 290), (1, .ref y), (2, .int (nI n)), (3, .ref P), (6, .int (nI t)), (9, .long (lN k)), (11, .int (nI i))] [] S Q := by
  intro u
  induction u with
  | zero =>
    intro i S V p hi K O hp
    obtain rfl : i = k := hi
    refine ks_iload dX16_parse_289 rfl rfl ?_
    refine ks_i2lN (by omega) dX16_parse_291 rfl ?_
    refine ks_lload dX16_parse_292 rfl rfl ?_
    refine ks_lif_geN (tgt := 339) (by omega) (by omega) dX16_parse_294 rfl dX16_parse_295 (by decide) rfl (fun h1 => ?_) (fun h1 => absurd h1 (by omega))
    exact ks_sub [(0, _), (1, _), (2, _), (3, _), (6, _)] rfl (hc S V p K O hp)
  | succ u ih =>
    intro i S V p hi K O hp
    have bad : ∀ S' V' p', psK S0 S' V0 V' → psO S' V' y n p' true → (ot g n p0 k = none ∨ ∃ b, ot g n p0 k = some b ∧ n < b) → ks_X l G mX16_parse (d + 2) 324 [(0, .ref 290), (1, .ref y), (2, .int (nI n)), (3, .ref P), (6, .int (nI t)), (9, .long (lN k)), (11, .int (nI i))] [] S' Q := by
      intro S' V' p' K' O' hz
      refine ks_aload_n dX16_parse_324 rfl rfl ?_
      refine ks_getf (T := TX16) (kf := 39) kx_2407 rfl in_X16 cl_X16 (by decide) O'.1 rfl dX16_parse_325 rfl ?_
      refine ks_tv O'.2.2.2.2.1 ?_
      refine ks_if_eqZ (tgt := 333) dX16_parse_328 (by decide) rfl (fun h => absurd h (by decide)) (fun _ => ?_)
      refine ks_iconst (x := nI 0) dX16_parse_331 (by decide) rfl ?_
      refine ks_zret rfl rfl dX16_parse_332 ?_
      exact hf S' V' p' K' O' hz
    refine ks_iload dX16_parse_289 rfl rfl ?_
    refine ks_i2lN (by omega) dX16_parse_291 rfl ?_
    refine ks_lload dX16_parse_292 rfl rfl ?_
    refine ks_lif_geN (tgt := 339) (by omega) (by omega) dX16_parse_294 rfl dX16_parse_295 (by decide) rfl (fun h1 => absurd h1 (by omega)) (fun h1 => ?_)
    refine ks_aload_n dX16_parse_298 rfl rfl ?_
    refine ks_ldc2 dX16_parse_299 kx_2007 rfl ?_
    refine ks_tl (y := lN 8) rfl ?_
    have pn := O.2.2.2.2.2
    by_cases hs : p + 8 ≤ n
    · refine ks_callV (n := 1) (M' := mX16_skip) (c_ps_skipN (d := d + 1) (m := 8) O (by omega) hs) O.1 cl_X16 rfl kx_2094 kx_2096 kxp_73 kx_30 kx_2097 (by decide +kernel) rfl (by decide) (Nat.le_of_ble_eq_true rfl) rfl dX16_parse_302 rfl (fun z1 T1 y1 => ?_)
      obtain ⟨rfl, V1, K1, O1⟩ := y1
      have ey := (K.trans K1).1.at hy0 (by rw [List.mem_singleton]; exact hy290)
      refine ks_aload_n dX16_parse_305 rfl rfl ?_
      refine ks_aload_n dX16_parse_306 rfl rfl ?_
      refine ks_getf (T := TX16) (kf := 39) kx_2407 rfl in_X16 cl_X16 (by decide) O1.1 rfl dX16_parse_307 rfl ?_
      refine ks_tv O1.2.2.2.2.1 ?_
      refine ks_if_eqZ (tgt := 317) dX16_parse_310 (by decide) rfl (fun _ => ?_) (fun h => absurd h (by decide))
      refine ks_aload_n dX16_parse_317 rfl rfl ?_
      refine ks_callV (n := 0) (M' := mX16_count) (c_ps_count (d := d) O1 ey kg hnN hN) O1.1 cl_X16 rfl kx_2098 kx_2100 kxp_74 kx_30 kx_2101 (by decide +kernel) rfl (by decide) (Nat.le_of_ble_eq_true rfl) rfl dX16_parse_318 rfl (fun z2 T2 y2 => ?_)
      obtain ⟨V2, q, K2, y2⟩ := y2
      have K02 := (K.trans K1).trans K2
      rcases y2 with ⟨v, v1, v2, rfl, O2, v3⟩ | ⟨x, x1, rfl, O2, x2⟩ | ⟨x, rfl, O2, x2⟩
      · have qn := O2.2.2.2.2.2
        have hr := v3 n (by omega)
        by_cases hq : q + v ≤ n
        · rw [if_pos (by omega)] at hr
          refine ks_callV (n := 1) (M' := mX16_skip) (c_ps_skipN (d := d + 1) (m := v) O2 (by omega) hq) O2.1 cl_X16 rfl kx_2094 kx_2096 kxp_73 kx_30 kx_2097 (by decide +kernel) rfl (by decide) (Nat.le_of_ble_eq_true rfl) rfl dX16_parse_321 rfl (fun z3 T3 y3 => ?_)
          obtain ⟨rfl, V3, K3, O3⟩ := y3
          refine ks_aload_n dX16_parse_324 rfl rfl ?_
          refine ks_getf (T := TX16) (kf := 39) kx_2407 rfl in_X16 cl_X16 (by decide) O3.1 rfl dX16_parse_325 rfl ?_
          refine ks_tv O3.2.2.2.2.1 ?_
          refine ks_if_eqZ (tgt := 333) dX16_parse_328 (by decide) rfl (fun _ => ?_) (fun h => absurd h (by decide))
          refine ks_incN (c := 1) (e := i + 1) dX16_parse_333 rfl (by decide) rfl (by decide) rfl ?_
          refine ks_sub [(11, _), (0, _), (1, _), (2, _), (3, _), (6, _), (9, _)] rfl ?_
          refine ks_goto (tgt := 289) dX16_parse_336 (by decide) ?_
          exact ks_sub [(0, _), (1, _), (2, _), (3, _), (6, _), (9, _), (11, _)] rfl (ih (i + 1) T3 V3 (q + v) (by omega) (K02.trans K3) O3 (ot_s hp hr))
        · refine ks_callV (n := 1) (M' := mX16_skip) (c_ps_skipX (d := d + 1) (x := lN v) O2 (by omega) (Or.inr ((pk_lLT (by omega) (by omega)).mpr (by omega)))) O2.1 cl_X16 rfl kx_2094 kx_2096 kxp_73 kx_30 kx_2097 (by decide +kernel) rfl (by decide) (Nat.le_of_ble_eq_true rfl) rfl dX16_parse_321 rfl (fun z3 T3 y3 => ?_)
          obtain ⟨rfl, V3, K3, O3⟩ := y3
          refine ks_sub [(0, _), (1, _), (2, _), (3, _), (6, _), (9, _), (11, _)] rfl (bad T3 V3 q (K02.trans K3) O3 ?_)
          by_cases c : v ≤ n
          · rw [if_pos c] at hr
            exact ot_far (ot_s hp hr) (by omega) k (by omega)
          · rw [if_neg c] at hr
            exact Or.inl (ot_n hp hr k (by omega))
      · refine ks_callV (n := 1) (M' := mX16_skip) (c_ps_skipX (d := d + 1) O2 (by omega) (lN_far (by omega) x1)) O2.1 cl_X16 rfl kx_2094 kx_2096 kxp_73 kx_30 kx_2097 (by decide +kernel) rfl (by decide) (Nat.le_of_ble_eq_true rfl) rfl dX16_parse_321 rfl (fun z3 T3 y3 => ?_)
        obtain ⟨rfl, V3, K3, O3⟩ := y3
        exact ks_sub [(0, _), (1, _), (2, _), (3, _), (6, _), (9, _), (11, _)] rfl (bad T3 V3 q (K02.trans K3) O3 (Or.inl (ot_n hp (x2 n (by omega)) k (by omega))))
      · refine ks_callV (n := 1) (M' := mX16_skip) (c_ps_skipA (d := d + 1) O2 (by omega)) O2.1 cl_X16 rfl kx_2094 kx_2096 kxp_73 kx_30 kx_2097 (by decide +kernel) rfl (by decide) (Nat.le_of_ble_eq_true rfl) rfl dX16_parse_321 rfl (fun z3 T3 y3 => ?_)
        obtain ⟨rfl, V3, p3, K3, O3⟩ := y3
        exact ks_sub [(0, _), (1, _), (2, _), (3, _), (6, _), (9, _), (11, _)] rfl (bad T3 V3 p3 (K02.trans K3) O3 (Or.inl (ot_n hp (x2 n (by omega)) k (by omega))))
    · refine ks_callV (n := 1) (M' := mX16_skip) (c_ps_skipX (d := d + 1) (x := lN 8) O (by omega) (Or.inr ((pk_lLT (by omega) (by decide)).mpr (by omega)))) O.1 cl_X16 rfl kx_2094 kx_2096 kxp_73 kx_30 kx_2097 (by decide +kernel) rfl (by decide) (Nat.le_of_ble_eq_true rfl) rfl dX16_parse_302 rfl (fun z1 T1 y1 => ?_)
      obtain ⟨rfl, V1, K1, O1⟩ := y1
      refine ks_aload_n dX16_parse_305 rfl rfl ?_
      refine ks_aload_n dX16_parse_306 rfl rfl ?_
      refine ks_getf (T := TX16) (kf := 39) kx_2407 rfl in_X16 cl_X16 (by decide) O1.1 rfl dX16_parse_307 rfl ?_
      refine ks_tv O1.2.2.2.2.1 ?_
      refine ks_if_eqZ (tgt := 317) dX16_parse_310 (by decide) rfl (fun h => absurd h (by decide)) (fun _ => ?_)
      refine ks_lconst (x := lN 0) dX16_parse_313 (by decide) rfl ?_
      refine ks_goto (tgt := 321) dX16_parse_314 (by decide) ?_
      refine ks_callV (n := 1) (M' := mX16_skip) (c_ps_skipA (d := d + 1) O1 (by omega)) O1.1 cl_X16 rfl kx_2094 kx_2096 kxp_73 kx_30 kx_2097 (by decide +kernel) rfl (by decide) (Nat.le_of_ble_eq_true rfl) rfl dX16_parse_321 rfl (fun z3 T3 y3 => ?_)
      obtain ⟨rfl, V3, p3, K3, O3⟩ := y3
      refine ks_sub [(0, _), (1, _), (2, _), (3, _), (6, _), (9, _), (11, _)] rfl (bad T3 V3 p3 ((K.trans K1).trans K3) O3 (Or.inl (ot_n hp ?_ k (by omega))))
      unfold rc
      rw [if_pos (by omega)]
