/-! THE REFERENCE: the nonce; seal -/
abbrev LAc : List Nat := [529, 291, 292, 293, 299, 305, 370, 359]
theorem nc_row {M : List Nat} {g : Nat → Nat} {z : Nat} (hz : z < 4096) (h0 : ∀ k, k < 4 → mg M (76 + k) = 0) (hg : ∀ j, j < M.length → (j < 76 ∨ 80 ≤ j) → g j = mg M j) : ∀ j, j < M.length → va_up (va_up (va_up (va_up g 76 (z / 2 ^ 0 % 256)) 77 (z / 2 ^ 8 % 256)) 78 (z / 2 ^ 16 % 256)) 79 (z / 2 ^ 24 % 256) j = mg (sNc M z) j := fun j hj => by
  rw [sNc_at hj]
  by_cases h9 : j = 79
  · rw [h9, va_up_self, if_neg (by decide), if_neg (by decide), show mg M 79 = 0 from h0 3 (by decide)]
    omega
  · rw [va_up_ne _ _ h9]
    by_cases h8 : j = 78
    · rw [h8, va_up_self, if_neg (by decide), if_neg (by decide), show mg M 78 = 0 from h0 2 (by decide)]
      omega
    · rw [va_up_ne _ _ h8]
      by_cases h7 : j = 77
      · rw [h7, va_up_self, if_pos rfl]
      · rw [va_up_ne _ _ h7, if_neg h7]
        by_cases h6 : j = 76
        · rw [h6, va_up_self, if_pos rfl, Nat.pow_zero, Nat.div_one]
        · rw [va_up_ne _ _ h6, if_neg h6]
          exact hg j hj (by omega)
theorem nc_out {M : List Nat} {z : Nat} : ∀ j, j < M.length → (j < 76 ∨ 80 ≤ j) → mg (sNc M z) j = mg M j := fun j hj h => by
  rw [sNc_at hj, if_neg (by omega), if_neg (by omega)]
theorem cmpN_gt {A B : Nat} : 0 < cmpN A B ↔ ¬ A ≤ B := by
  rw [← cmpN_le]
  exact ⟨fun h => Int32.not_le.mpr h, fun h => Int32.not_le.mp h⟩
set_option maxRecDepth 100000 in
set_option maxHeartbeats 1600000 in
theorem l_asNn {l : Launch} {G : ks_G} {d : Nat} {S : ks_S} {V : Nat → Value} {bt T : Nat} {M : List Nat} {md : Nat} (hmd : ¬ md = 3) (hmd9 : md < 6) (hO : S.2.2 290 = some (rfE V)) (hM80 : 80 ≤ M.length) (hM13 : M.length ≤ 131072) (h0 : ∀ k, k < 4 → mg M (76 + k) = 0) (w532 : wA S 532 T) {P9 : Option Value → ks_S → Prop} (hk : ∀ S1 : ks_S, ks_up S S1 LAc → S1.2.2 290 = some (rfE V) → mhR S1 → (∃ g, kO g ∧ S1.2.2 305 = some (kB 32 g)) → (∃ g, kO g ∧ S1.2.2 370 = some (kB 32 g)) → (∃ X, wA S1 359 X) → (∃ g, S1.2.2 529 = some (kB 131072 g) ∧ kO g ∧ ∀ j, j < M.length → g j = mg (sNc M (fnN M true T 4096 0)) j) → P9 none S1) : ∀ (u z : Nat) (S1 : ks_S) (g : Nat → Nat), z + u = 4096 → fnN M true T u z = fnN M true T 4096 0 → ks_up S S1 LAc → mhR S1 → (∃ g, kO g ∧ S1.2.2 305 = some (kB 32 g)) → (∃ g, kO g ∧ S1.2.2 370 = some (kB 32 g)) → (∃ X, wA S1 359 X) → S1.2.2 529 = some (kB 131072 g) → kO g → (∀ j, j < M.length → (j < 76 ∨ 80 ≤ j) → g j = mg M j) → (z = 0 ∨ ∀ j, j < M.length → g j = mg (sNc M (z - 1)) j) → ks_X l G mX16_assemble (d + 5) 233 [(0, .ref 290), (1, .int (nI md)), (2, .int (nI bt)), (3, .int (nI z))] [] S1 P9 := by
  intro u
  induction u with
  | zero =>
    intro z S1 g hz hf hu M1 f1 d1 x1 e1 kg hg hl
    have o1 := hu.at hO (by decide)
    obtain rfl : z = 4096 := hz
    refine ks_iload_n dX16_assemble_233 rfl rfl ?_
    refine ks_sipush (x := nI 4096) dX16_assemble_234 (by decide) rfl ?_
    refine ks_icmp_geN (tgt := 341) (by decide) (by decide) dX16_assemble_237 (by decide) rfl (fun h1 => ?_) (fun h1 => ?_)
    · refine ks_ret rfl dX16_assemble_341 ?_
      refine hk S1 hu o1 M1 f1 d1 x1 ⟨g, e1, kg, ?_⟩
      rw [← hf]
      rcases hl with h | h
      · exact absurd h (by decide)
      · exact h
    · exact absurd h1 (by decide)
  | succ u ih =>
    intro z S1 g hz hf hu M1 f1 d1 x1 e1 kg hg hl
    have o1 := hu.at hO (by decide)
    refine ks_iload_n dX16_assemble_233 rfl rfl ?_
    refine ks_sipush (x := nI 4096) dX16_assemble_234 (by decide) rfl ?_
    refine ks_icmp_geN (tgt := 341) (by omega) (by decide) dX16_assemble_237 (by decide) rfl (fun h1 => absurd h1 (by omega)) (fun h1 => ?_)
    refine ks_iconst (x := nI 0) dX16_assemble_240 (by decide) rfl ?_
    refine ks_istore dX16_assemble_241 (by decide) rfl ?_
    refine ks_sub [(4, _), (0, _), (1, _), (2, _), (3, _)] rfl ?_
    refine ks_iload dX16_assemble_243 rfl rfl ?_
    refine ks_iconst (x := nI 4) dX16_assemble_245 (by decide) rfl ?_
    refine ks_icmp_geN (tgt := 273) (by decide) (by decide) dX16_assemble_246 (by decide) rfl (fun hc246 => ?_) (fun hc246 => ?_)
    · exact absurd hc246 (by decide)
    · refine ks_aload_n dX16_assemble_249 rfl rfl ?_
      refine ks_getf (T := TX16) (kf := 106) kx_2474 rfl in_X16 cl_X16 (by decide) o1 rfl dX16_assemble_250 rfl ?_
      refine ks_bipush (x := nI 76) dX16_assemble_253 (by decide) rfl ?_
      refine ks_iload dX16_assemble_255 rfl rfl ?_
      refine ks_addN dX16_assemble_257 rfl ?_
      refine ks_ti (y := nI 76) rfl ?_
      refine ks_iload_n dX16_assemble_258 rfl rfl ?_
      refine ks_bipush (x := nI 8) dX16_assemble_259 (by decide) rfl ?_
      refine ks_iload dX16_assemble_261 rfl rfl ?_
      refine ks_mulN dX16_assemble_263 rfl ?_
      refine ks_ti (y := nI 0) rfl ?_
      refine ks_ushrN (k := 0) (by decide) (by omega) dX16_assemble_264 rfl ?_
      refine ks_i2b dX16_assemble_265 rfl ?_
      refine ks_bastB (i := 76) (c := (z / 2 ^ 0) % 256) e1 rfl (by decide) (by decide) ((ks_by_i8 _).trans (ks_by_nI _)) dX16_assemble_266 rfl ?_
      refine ks_incN (c := 1) (e := 1) dX16_assemble_267 rfl (by decide) rfl (by decide) rfl ?_
      refine ks_sub [(4, _), (0, _), (1, _), (2, _), (3, _)] rfl ?_
      refine ks_goto (tgt := 243) dX16_assemble_270 (by decide) ?_
      refine ks_iload dX16_assemble_243 rfl rfl ?_
      refine ks_iconst (x := nI 4) dX16_assemble_245 (by decide) rfl ?_
      refine ks_icmp_geN (tgt := 273) (by decide) (by decide) dX16_assemble_246 (by decide) rfl (fun hc246 => ?_) (fun hc246 => ?_)
      · exact absurd hc246 (by decide)
      · refine ks_aload_n dX16_assemble_249 rfl rfl ?_
        refine ks_getf (T := TX16) (kf := 106) kx_2474 rfl in_X16 cl_X16 (by decide) ((ks_set_ne _ _ (by decide)).trans o1) rfl dX16_assemble_250 rfl ?_
        refine ks_bipush (x := nI 76) dX16_assemble_253 (by decide) rfl ?_
        refine ks_iload dX16_assemble_255 rfl rfl ?_
        refine ks_addN dX16_assemble_257 rfl ?_
        refine ks_ti (y := nI 77) rfl ?_
        refine ks_iload_n dX16_assemble_258 rfl rfl ?_
        refine ks_bipush (x := nI 8) dX16_assemble_259 (by decide) rfl ?_
        refine ks_iload dX16_assemble_261 rfl rfl ?_
        refine ks_mulN dX16_assemble_263 rfl ?_
        refine ks_ti (y := nI 8) rfl ?_
        refine ks_ushrN (k := 8) (by decide) (by omega) dX16_assemble_264 rfl ?_
        refine ks_i2b dX16_assemble_265 rfl ?_
        refine ks_bastB (i := 77) (c := (z / 2 ^ 8) % 256) (ks_set_same _ _ _) rfl (by decide) (by decide) ((ks_by_i8 _).trans (ks_by_nI _)) dX16_assemble_266 rfl ?_
        refine ks_incN (c := 1) (e := 2) dX16_assemble_267 rfl (by decide) rfl (by decide) rfl ?_
        refine ks_sub [(4, _), (0, _), (1, _), (2, _), (3, _)] rfl ?_
        refine ks_goto (tgt := 243) dX16_assemble_270 (by decide) ?_
        refine ks_iload dX16_assemble_243 rfl rfl ?_
        refine ks_iconst (x := nI 4) dX16_assemble_245 (by decide) rfl ?_
        refine ks_icmp_geN (tgt := 273) (by decide) (by decide) dX16_assemble_246 (by decide) rfl (fun hc246 => ?_) (fun hc246 => ?_)
        · exact absurd hc246 (by decide)
        · refine ks_aload_n dX16_assemble_249 rfl rfl ?_
          refine ks_getf (T := TX16) (kf := 106) kx_2474 rfl in_X16 cl_X16 (by decide) ((ks_set_ne _ _ (by decide)).trans ((ks_set_ne _ _ (by decide)).trans o1)) rfl dX16_assemble_250 rfl ?_
          refine ks_bipush (x := nI 76) dX16_assemble_253 (by decide) rfl ?_
          refine ks_iload dX16_assemble_255 rfl rfl ?_
          refine ks_addN dX16_assemble_257 rfl ?_
          refine ks_ti (y := nI 78) rfl ?_
          refine ks_iload_n dX16_assemble_258 rfl rfl ?_
          refine ks_bipush (x := nI 8) dX16_assemble_259 (by decide) rfl ?_
          refine ks_iload dX16_assemble_261 rfl rfl ?_
          refine ks_mulN dX16_assemble_263 rfl ?_
          refine ks_ti (y := nI 16) rfl ?_
          refine ks_ushrN (k := 16) (by decide) (by omega) dX16_assemble_264 rfl ?_
          refine ks_i2b dX16_assemble_265 rfl ?_
          refine ks_bastB (i := 78) (c := (z / 2 ^ 16) % 256) (ks_set_same _ _ _) rfl (by decide) (by decide) ((ks_by_i8 _).trans (ks_by_nI _)) dX16_assemble_266 rfl ?_
          refine ks_incN (c := 1) (e := 3) dX16_assemble_267 rfl (by decide) rfl (by decide) rfl ?_
          refine ks_sub [(4, _), (0, _), (1, _), (2, _), (3, _)] rfl ?_
          refine ks_goto (tgt := 243) dX16_assemble_270 (by decide) ?_
          refine ks_iload dX16_assemble_243 rfl rfl ?_
          refine ks_iconst (x := nI 4) dX16_assemble_245 (by decide) rfl ?_
          refine ks_icmp_geN (tgt := 273) (by decide) (by decide) dX16_assemble_246 (by decide) rfl (fun hc246 => ?_) (fun hc246 => ?_)
          · exact absurd hc246 (by decide)
          · refine ks_aload_n dX16_assemble_249 rfl rfl ?_
            refine ks_getf (T := TX16) (kf := 106) kx_2474 rfl in_X16 cl_X16 (by decide) ((ks_set_ne _ _ (by decide)).trans ((ks_set_ne _ _ (by decide)).trans ((ks_set_ne _ _ (by decide)).trans o1))) rfl dX16_assemble_250 rfl ?_
            refine ks_bipush (x := nI 76) dX16_assemble_253 (by decide) rfl ?_
            refine ks_iload dX16_assemble_255 rfl rfl ?_
            refine ks_addN dX16_assemble_257 rfl ?_
            refine ks_ti (y := nI 79) rfl ?_
            refine ks_iload_n dX16_assemble_258 rfl rfl ?_
            refine ks_bipush (x := nI 8) dX16_assemble_259 (by decide) rfl ?_
            refine ks_iload dX16_assemble_261 rfl rfl ?_
            refine ks_mulN dX16_assemble_263 rfl ?_
            refine ks_ti (y := nI 24) rfl ?_
            refine ks_ushrN (k := 24) (by decide) (by omega) dX16_assemble_264 rfl ?_
            refine ks_i2b dX16_assemble_265 rfl ?_
            refine ks_bastB (i := 79) (c := (z / 2 ^ 24) % 256) (ks_set_same _ _ _) rfl (by decide) (by decide) ((ks_by_i8 _).trans (ks_by_nI _)) dX16_assemble_266 rfl ?_
            refine ks_incN (c := 1) (e := 4) dX16_assemble_267 rfl (by decide) rfl (by decide) rfl ?_
            refine ks_sub [(4, _), (0, _), (1, _), (2, _), (3, _)] rfl ?_
            refine ks_goto (tgt := 243) dX16_assemble_270 (by decide) ?_
            refine ks_iload dX16_assemble_243 rfl rfl ?_
            refine ks_iconst (x := nI 4) dX16_assemble_245 (by decide) rfl ?_
            refine ks_icmp_geN (tgt := 273) (by decide) (by decide) dX16_assemble_246 (by decide) rfl (fun hc246 => ?_) (fun hc246 => ?_)
            · refine ks_nm (fun T1 e9 => ?_)
              have u1 : ks_up S1 T1 [529] := by rw [e9]; exact ks_upL (ks_upL (ks_upL (ks_up_set _ _ (List.mem_singleton.mpr rfl)) (List.mem_singleton.mpr rfl)) (List.mem_singleton.mpr rfl)) (List.mem_singleton.mpr rfl)
              obtain ⟨g1, eg1⟩ : ∃ v, v = (va_up (va_up (va_up (va_up g 76 ((z / 2 ^ 0) % 256)) 77 ((z / 2 ^ 8) % 256)) 78 ((z / 2 ^ 16) % 256)) 79 ((z / 2 ^ 24) % 256)) := ⟨_, rfl⟩
              have y1 : T1.2.2 529 = some (kB 131072 g1) := by rw [e9, eg1]; exact ks_set_same _ _ _
              clear e9
              have k1 : kO g1 := by rw [eg1]; exact kO_up (kO_up (kO_up (kO_up kg (Nat.mod_lt _ (by decide))) (Nat.mod_lt _ (by decide))) (Nat.mod_lt _ (by decide))) (Nat.mod_lt _ (by decide))
              have hg1 : ∀ j, j < M.length → g1 j = mg (sNc M z) j := fun j hj => by rw [eg1]; exact nc_row (by omega) h0 hg j hj
              have o2 := u1.at o1 (by decide)
              obtain ⟨g5, k5, f1⟩ := f1
              obtain ⟨g7, k7, d1⟩ := d1
              obtain ⟨x9, x1⟩ := x1
              refine ks_sub [(0, _), (1, _), (2, _), (3, _)] rfl ?_
              refine ks_aload_n dX16_assemble_273 rfl rfl ?_
              refine ks_aload_n dX16_assemble_274 rfl rfl ?_
              refine ks_getf (T := TX16) (kf := 106) kx_2474 rfl in_X16 cl_X16 (by decide) o2 rfl dX16_assemble_275 rfl ?_
              refine ks_iconst (x := nI 0) dX16_assemble_278 (by decide) rfl ?_
              refine ks_bipush (x := nI 80) dX16_assemble_279 (by decide) rfl ?_
              refine ks_aload_n dX16_assemble_281 rfl rfl ?_
              refine ks_getf (T := TX16) (kf := 86) kx_2454 rfl in_X16 cl_X16 (by decide) o2 rfl dX16_assemble_282 rfl ?_
              refine ks_iconst (x := nI 0) dX16_assemble_285 (by decide) rfl ?_
              refine ks_callV (n := 5) (M' := mX16_again) (c_md_again (d := d + 1) o2 (M1.up u1 (by decide)) (u1.at f1 (by decide)) k5 y1 k1 (i := 0) (n := 80) (by decide) (by decide) (u1.at d1 (by decide)) k7 (oa := 0) (by decide) (by decide) (by decide) (by decide)) o2 cl_X16 rfl kx_1988 kx_1990 kxp_61 kx_30 kx_1991 (by decide +kernel) rfl (by decide) (Nat.le_of_ble_eq_true rfl) rfl dX16_assemble_286 rfl (fun z2 T2 y2 => ?_)
              obtain ⟨rfl, u2, M2, f2, d2⟩ := y2
              have o3 := u2.at o2 (by decide)
              have kd2 : kO (ks_pt (twice_ (fun k => g1 (0 + k)) 80) g7 0 32) := kO_pt (kO_twice _ _) k7 _ _
              have eh : ∀ k, k < 32 → ks_pt (twice_ (fun k => g1 (0 + k)) 80) g7 0 32 k = hsB (sNc M z) k := fun k hk => by
                have e1 := ks_pt_in (twice_ (fun k => g1 (0 + k)) 80) g7 0 32 hk
                rw [Nat.zero_add] at e1
                rw [e1]
                unfold hsB
                rw [twice_congr (m' := mg (sNc M z)) (fun y hy => by rw [Nat.zero_add]; exact hg1 y (by omega))]
              refine ks_aload_n dX16_assemble_289 rfl rfl ?_
              refine ks_getf (T := TX16) (kf := 86) kx_2454 rfl in_X16 cl_X16 (by decide) o3 rfl dX16_assemble_290 rfl ?_
              refine ks_iconst (x := nI 0) dX16_assemble_293 (by decide) rfl ?_
              refine ks_iconst (x := nI 0) dX16_assemble_294 (by decide) rfl ?_
              refine ks_ti (y := ks_bo false) rfl ?_
              refine ks_aload_n dX16_assemble_295 rfl rfl ?_
              refine ks_getf (T := TX16) (kf := 62) kx_2430 rfl in_X16 cl_X16 (by decide) o3 rfl dX16_assemble_296 rfl ?_
              refine ks_callS (n := 4) (M' := mX16_fromBytes) (c_md_fromL (d := d + 4) d2 kd2 (by decide) (by decide) ((x1.up u1 (by decide)).up u2 (by decide)) (by decide)) kx_2043 kx_2044 kx_30 kx_2045 (by decide +kernel) rfl (by decide) (Nat.le_of_ble_eq_true rfl) rfl dX16_assemble_299 rfl (fun z3 T3 y3 => ?_)
              obtain ⟨rfl, u3, w3⟩ := y3
              have eA : dg 256 (fbF false (ks_pt (twice_ (fun k => g1 (0 + k)) 80) g7 0 32) 0) 32 = dg 256 (hsB (sNc M z)) 32 := dg_congr (fun k hk => by
                refine Eq.trans (if_neg (by decide)) ?_
                rw [Nat.zero_add]
                exact eh k hk)
              rw [eA] at w3
              obtain ⟨A9, eA9⟩ : ∃ v, v = dg 256 (hsB (sNc M z)) 32 := ⟨_, rfl⟩
              rw [← eA9] at w3
              have hB9 : fnB M T z = decide (A9 ≤ T) := by unfold fnB; rw [eA9]
              have o4 := u3.at o3 (by decide)
              have w5 : wA T3 532 T := (((w532.up hu (by decide)).up u1 (by decide)).up u2 (by decide)).up u3 (by decide)
              have U3 : ks_up S T3 LAc := ((hu.trans (u1.mono (by decide))).trans (u2.mono (by decide))).trans (u3.mono (by decide))
              have M3 := M2.up u3 (by decide)
              have y3' := u3.at (u2.at y1 (by decide)) (by decide)
              have f3 : ∃ g, kO g ∧ T3.2.2 305 = some (kB 32 g) := by
                obtain ⟨ga, ka, ea⟩ := f2
                exact ⟨ga, ka, u3.at ea (by decide)⟩
              have d3 : ∃ g, kO g ∧ T3.2.2 370 = some (kB 32 g) := ⟨_, kd2, u3.at d2 (by decide)⟩
              refine ks_aload_n dX16_assemble_302 rfl rfl ?_
              refine ks_getf (T := TX16) (kf := 62) kx_2430 rfl in_X16 cl_X16 (by decide) o4 rfl dX16_assemble_303 rfl ?_
              refine ks_aload_n dX16_assemble_306 rfl rfl ?_
              refine ks_getf (T := TX16) (kf := 112) kx_2480 rfl in_X16 cl_X16 (by decide) o4 rfl dX16_assemble_307 rfl ?_
              refine ks_callS (n := 2) (M' := mX15_compare) (c_rg_compare (d := d + 4) w3 w5 (by decide) (by decide)) kx_2035 kx_1870 kx_33 kx_1871 (by decide +kernel) rfl (by decide) (Nat.le_of_ble_eq_true rfl) rfl dX16_assemble_310 rfl (fun z4 T4 y4 => ?_)
              obtain ⟨rfl, hT4⟩ := y4
              obtain rfl := hT4.symm
              refine ks_if_gt (tgt := 320) dX16_assemble_313 (by decide) rfl (fun hc => ?_) (fun hc => ?_)
              · have hb : fnB M T z = false := by rw [hB9]; exact decide_eq_false (cmpN_gt.mp hc)
                refine ks_iconst (x := nI 0) dX16_assemble_320 (by decide) rfl ?_
                refine ks_iload_n dX16_assemble_321 rfl rfl ?_
                refine ks_iconst (x := nI 3) dX16_assemble_322 (by decide) rfl ?_
                refine ks_icmp_neN (tgt := 330) (by omega) (by decide) dX16_assemble_323 (by decide) rfl (fun hc323 => ?_) (fun hc323 => ?_)
                · refine ks_iconst (x := nI 0) dX16_assemble_330 (by decide) rfl ?_
                  refine ks_icmp_eqN (tgt := 335) (by decide) (by decide) dX16_assemble_331 (by decide) rfl (fun hc331 => ?_) (fun hc331 => ?_)
                  · refine ks_incN (c := 1) (e := z + 1) dX16_assemble_335 rfl (by decide) rfl (by decide) rfl ?_
                    refine ks_sub [(3, _), (0, _), (1, _), (2, _)] rfl ?_
                    refine ks_goto (tgt := 233) dX16_assemble_338 (by decide) ?_
                    refine ks_sub [(0, _), (1, _), (2, _), (3, _)] rfl (ih (z + 1) T3 g1 (by omega) ?_ U3 M3 f3 d3 ⟨_, w3⟩ y3' k1 (fun j hj h => (hg1 j hj).trans (nc_out j hj h)) (Or.inr hg1))
                    rw [← hf]
                    exact (if_neg (by rw [hb]; decide)).symm
                  · exact absurd hc331 (by decide)
                · omega
              · have hb : fnB M T z = true := by rw [hB9]; exact decide_eq_true (Classical.not_not.mp (mt cmpN_gt.mpr hc))
                refine ks_iconst (x := nI 1) dX16_assemble_316 (by decide) rfl ?_
                refine ks_goto (tgt := 321) dX16_assemble_317 (by decide) ?_
                refine ks_iload_n dX16_assemble_321 rfl rfl ?_
                refine ks_iconst (x := nI 3) dX16_assemble_322 (by decide) rfl ?_
                refine ks_icmp_neN (tgt := 330) (by omega) (by decide) dX16_assemble_323 (by decide) rfl (fun hc323 => ?_) (fun hc323 => ?_)
                · refine ks_iconst (x := nI 0) dX16_assemble_330 (by decide) rfl ?_
                  refine ks_icmp_eqN (tgt := 335) (by decide) (by decide) dX16_assemble_331 (by decide) rfl (fun hc331 => ?_) (fun hc331 => ?_)
                  · exact absurd hc331 (by decide)
                  · refine ks_ret rfl dX16_assemble_334 ?_
                    refine hk T3 U3 o4 M3 f3 d3 ⟨_, w3⟩ ⟨g1, y3', k1, ?_⟩
                    rw [← hf, show fnN M true T (u + 1) z = z from if_pos hb]
                    exact hg1
                · omega
            · exact absurd hc246 (by decide)
set_option maxRecDepth 100000 in
set_option maxHeartbeats 1600000 in
theorem l_asN3 {l : Launch} {G : ks_G} {d : Nat} {S : ks_S} {V : Nat → Value} {bt T : Nat} {M : List Nat} (hO : S.2.2 290 = some (rfE V)) (hM80 : 80 ≤ M.length) (hM13 : M.length ≤ 131072) (h0 : ∀ k, k < 4 → mg M (76 + k) = 0) (w532 : wA S 532 T) {P9 : Option Value → ks_S → Prop} (hk : ∀ S1 : ks_S, ks_up S S1 LAc → S1.2.2 290 = some (rfE V) → mhR S1 → (∃ g, kO g ∧ S1.2.2 305 = some (kB 32 g)) → (∃ g, kO g ∧ S1.2.2 370 = some (kB 32 g)) → (∃ X, wA S1 359 X) → (∃ g, S1.2.2 529 = some (kB 131072 g) ∧ kO g ∧ ∀ j, j < M.length → g j = mg (sNc M (fnN M false T 4096 0)) j) → P9 none S1) : ∀ (u z : Nat) (S1 : ks_S) (g : Nat → Nat), z + u = 4096 → fnN M false T u z = fnN M false T 4096 0 → ks_up S S1 LAc → mhR S1 → (∃ g, kO g ∧ S1.2.2 305 = some (kB 32 g)) → (∃ g, kO g ∧ S1.2.2 370 = some (kB 32 g)) → (∃ X, wA S1 359 X) → S1.2.2 529 = some (kB 131072 g) → kO g → (∀ j, j < M.length → (j < 76 ∨ 80 ≤ j) → g j = mg M j) → (z = 0 ∨ ∀ j, j < M.length → g j = mg (sNc M (z - 1)) j) → ks_X l G mX16_assemble (d + 5) 233 [(0, .ref 290), (1, .int (nI 3)), (2, .int (nI bt)), (3, .int (nI z))] [] S1 P9 := by
  intro u
  induction u with
  | zero =>
    intro z S1 g hz hf hu M1 f1 d1 x1 e1 kg hg hl
    have o1 := hu.at hO (by decide)
    obtain rfl : z = 4096 := hz
    refine ks_iload_n dX16_assemble_233 rfl rfl ?_
    refine ks_sipush (x := nI 4096) dX16_assemble_234 (by decide) rfl ?_
    refine ks_icmp_geN (tgt := 341) (by decide) (by decide) dX16_assemble_237 (by decide) rfl (fun h1 => ?_) (fun h1 => ?_)
    · refine ks_ret rfl dX16_assemble_341 ?_
      refine hk S1 hu o1 M1 f1 d1 x1 ⟨g, e1, kg, ?_⟩
      rw [← hf]
      rcases hl with h | h
      · exact absurd h (by decide)
      · exact h
    · exact absurd h1 (by decide)
  | succ u ih =>
    intro z S1 g hz hf hu M1 f1 d1 x1 e1 kg hg hl
    have o1 := hu.at hO (by decide)
    refine ks_iload_n dX16_assemble_233 rfl rfl ?_
    refine ks_sipush (x := nI 4096) dX16_assemble_234 (by decide) rfl ?_
    refine ks_icmp_geN (tgt := 341) (by omega) (by decide) dX16_assemble_237 (by decide) rfl (fun h1 => absurd h1 (by omega)) (fun h1 => ?_)
    refine ks_iconst (x := nI 0) dX16_assemble_240 (by decide) rfl ?_
    refine ks_istore dX16_assemble_241 (by decide) rfl ?_
    refine ks_sub [(4, _), (0, _), (1, _), (2, _), (3, _)] rfl ?_
    refine ks_iload dX16_assemble_243 rfl rfl ?_
    refine ks_iconst (x := nI 4) dX16_assemble_245 (by decide) rfl ?_
    refine ks_icmp_geN (tgt := 273) (by decide) (by decide) dX16_assemble_246 (by decide) rfl (fun hc246 => ?_) (fun hc246 => ?_)
    · exact absurd hc246 (by decide)
    · refine ks_aload_n dX16_assemble_249 rfl rfl ?_
      refine ks_getf (T := TX16) (kf := 106) kx_2474 rfl in_X16 cl_X16 (by decide) o1 rfl dX16_assemble_250 rfl ?_
      refine ks_bipush (x := nI 76) dX16_assemble_253 (by decide) rfl ?_
      refine ks_iload dX16_assemble_255 rfl rfl ?_
      refine ks_addN dX16_assemble_257 rfl ?_
      refine ks_ti (y := nI 76) rfl ?_
      refine ks_iload_n dX16_assemble_258 rfl rfl ?_
      refine ks_bipush (x := nI 8) dX16_assemble_259 (by decide) rfl ?_
      refine ks_iload dX16_assemble_261 rfl rfl ?_
      refine ks_mulN dX16_assemble_263 rfl ?_
      refine ks_ti (y := nI 0) rfl ?_
      refine ks_ushrN (k := 0) (by decide) (by omega) dX16_assemble_264 rfl ?_
      refine ks_i2b dX16_assemble_265 rfl ?_
      refine ks_bastB (i := 76) (c := (z / 2 ^ 0) % 256) e1 rfl (by decide) (by decide) ((ks_by_i8 _).trans (ks_by_nI _)) dX16_assemble_266 rfl ?_
      refine ks_incN (c := 1) (e := 1) dX16_assemble_267 rfl (by decide) rfl (by decide) rfl ?_
      refine ks_sub [(4, _), (0, _), (1, _), (2, _), (3, _)] rfl ?_
      refine ks_goto (tgt := 243) dX16_assemble_270 (by decide) ?_
      refine ks_iload dX16_assemble_243 rfl rfl ?_
      refine ks_iconst (x := nI 4) dX16_assemble_245 (by decide) rfl ?_
      refine ks_icmp_geN (tgt := 273) (by decide) (by decide) dX16_assemble_246 (by decide) rfl (fun hc246 => ?_) (fun hc246 => ?_)
      · exact absurd hc246 (by decide)
      · refine ks_aload_n dX16_assemble_249 rfl rfl ?_
        refine ks_getf (T := TX16) (kf := 106) kx_2474 rfl in_X16 cl_X16 (by decide) ((ks_set_ne _ _ (by decide)).trans o1) rfl dX16_assemble_250 rfl ?_
        refine ks_bipush (x := nI 76) dX16_assemble_253 (by decide) rfl ?_
        refine ks_iload dX16_assemble_255 rfl rfl ?_
        refine ks_addN dX16_assemble_257 rfl ?_
        refine ks_ti (y := nI 77) rfl ?_
        refine ks_iload_n dX16_assemble_258 rfl rfl ?_
        refine ks_bipush (x := nI 8) dX16_assemble_259 (by decide) rfl ?_
        refine ks_iload dX16_assemble_261 rfl rfl ?_
        refine ks_mulN dX16_assemble_263 rfl ?_
        refine ks_ti (y := nI 8) rfl ?_
        refine ks_ushrN (k := 8) (by decide) (by omega) dX16_assemble_264 rfl ?_
        refine ks_i2b dX16_assemble_265 rfl ?_
        refine ks_bastB (i := 77) (c := (z / 2 ^ 8) % 256) (ks_set_same _ _ _) rfl (by decide) (by decide) ((ks_by_i8 _).trans (ks_by_nI _)) dX16_assemble_266 rfl ?_
        refine ks_incN (c := 1) (e := 2) dX16_assemble_267 rfl (by decide) rfl (by decide) rfl ?_
        refine ks_sub [(4, _), (0, _), (1, _), (2, _), (3, _)] rfl ?_
        refine ks_goto (tgt := 243) dX16_assemble_270 (by decide) ?_
        refine ks_iload dX16_assemble_243 rfl rfl ?_
        refine ks_iconst (x := nI 4) dX16_assemble_245 (by decide) rfl ?_
        refine ks_icmp_geN (tgt := 273) (by decide) (by decide) dX16_assemble_246 (by decide) rfl (fun hc246 => ?_) (fun hc246 => ?_)
        · exact absurd hc246 (by decide)
        · refine ks_aload_n dX16_assemble_249 rfl rfl ?_
          refine ks_getf (T := TX16) (kf := 106) kx_2474 rfl in_X16 cl_X16 (by decide) ((ks_set_ne _ _ (by decide)).trans ((ks_set_ne _ _ (by decide)).trans o1)) rfl dX16_assemble_250 rfl ?_
          refine ks_bipush (x := nI 76) dX16_assemble_253 (by decide) rfl ?_
          refine ks_iload dX16_assemble_255 rfl rfl ?_
          refine ks_addN dX16_assemble_257 rfl ?_
          refine ks_ti (y := nI 78) rfl ?_
          refine ks_iload_n dX16_assemble_258 rfl rfl ?_
          refine ks_bipush (x := nI 8) dX16_assemble_259 (by decide) rfl ?_
          refine ks_iload dX16_assemble_261 rfl rfl ?_
          refine ks_mulN dX16_assemble_263 rfl ?_
          refine ks_ti (y := nI 16) rfl ?_
          refine ks_ushrN (k := 16) (by decide) (by omega) dX16_assemble_264 rfl ?_
          refine ks_i2b dX16_assemble_265 rfl ?_
          refine ks_bastB (i := 78) (c := (z / 2 ^ 16) % 256) (ks_set_same _ _ _) rfl (by decide) (by decide) ((ks_by_i8 _).trans (ks_by_nI _)) dX16_assemble_266 rfl ?_
          refine ks_incN (c := 1) (e := 3) dX16_assemble_267 rfl (by decide) rfl (by decide) rfl ?_
          refine ks_sub [(4, _), (0, _), (1, _), (2, _), (3, _)] rfl ?_
          refine ks_goto (tgt := 243) dX16_assemble_270 (by decide) ?_
          refine ks_iload dX16_assemble_243 rfl rfl ?_
          refine ks_iconst (x := nI 4) dX16_assemble_245 (by decide) rfl ?_
          refine ks_icmp_geN (tgt := 273) (by decide) (by decide) dX16_assemble_246 (by decide) rfl (fun hc246 => ?_) (fun hc246 => ?_)
          · exact absurd hc246 (by decide)
          · refine ks_aload_n dX16_assemble_249 rfl rfl ?_
            refine ks_getf (T := TX16) (kf := 106) kx_2474 rfl in_X16 cl_X16 (by decide) ((ks_set_ne _ _ (by decide)).trans ((ks_set_ne _ _ (by decide)).trans ((ks_set_ne _ _ (by decide)).trans o1))) rfl dX16_assemble_250 rfl ?_
            refine ks_bipush (x := nI 76) dX16_assemble_253 (by decide) rfl ?_
            refine ks_iload dX16_assemble_255 rfl rfl ?_
            refine ks_addN dX16_assemble_257 rfl ?_
            refine ks_ti (y := nI 79) rfl ?_
            refine ks_iload_n dX16_assemble_258 rfl rfl ?_
            refine ks_bipush (x := nI 8) dX16_assemble_259 (by decide) rfl ?_
            refine ks_iload dX16_assemble_261 rfl rfl ?_
            refine ks_mulN dX16_assemble_263 rfl ?_
            refine ks_ti (y := nI 24) rfl ?_
            refine ks_ushrN (k := 24) (by decide) (by omega) dX16_assemble_264 rfl ?_
            refine ks_i2b dX16_assemble_265 rfl ?_
            refine ks_bastB (i := 79) (c := (z / 2 ^ 24) % 256) (ks_set_same _ _ _) rfl (by decide) (by decide) ((ks_by_i8 _).trans (ks_by_nI _)) dX16_assemble_266 rfl ?_
            refine ks_incN (c := 1) (e := 4) dX16_assemble_267 rfl (by decide) rfl (by decide) rfl ?_
            refine ks_sub [(4, _), (0, _), (1, _), (2, _), (3, _)] rfl ?_
            refine ks_goto (tgt := 243) dX16_assemble_270 (by decide) ?_
            refine ks_iload dX16_assemble_243 rfl rfl ?_
            refine ks_iconst (x := nI 4) dX16_assemble_245 (by decide) rfl ?_
            refine ks_icmp_geN (tgt := 273) (by decide) (by decide) dX16_assemble_246 (by decide) rfl (fun hc246 => ?_) (fun hc246 => ?_)
            · refine ks_nm (fun T1 e9 => ?_)
              have u1 : ks_up S1 T1 [529] := by rw [e9]; exact ks_upL (ks_upL (ks_upL (ks_up_set _ _ (List.mem_singleton.mpr rfl)) (List.mem_singleton.mpr rfl)) (List.mem_singleton.mpr rfl)) (List.mem_singleton.mpr rfl)
              obtain ⟨g1, eg1⟩ : ∃ v, v = (va_up (va_up (va_up (va_up g 76 ((z / 2 ^ 0) % 256)) 77 ((z / 2 ^ 8) % 256)) 78 ((z / 2 ^ 16) % 256)) 79 ((z / 2 ^ 24) % 256)) := ⟨_, rfl⟩
              have y1 : T1.2.2 529 = some (kB 131072 g1) := by rw [e9, eg1]; exact ks_set_same _ _ _
              clear e9
              have k1 : kO g1 := by rw [eg1]; exact kO_up (kO_up (kO_up (kO_up kg (Nat.mod_lt _ (by decide))) (Nat.mod_lt _ (by decide))) (Nat.mod_lt _ (by decide))) (Nat.mod_lt _ (by decide))
              have hg1 : ∀ j, j < M.length → g1 j = mg (sNc M z) j := fun j hj => by rw [eg1]; exact nc_row (by omega) h0 hg j hj
              have o2 := u1.at o1 (by decide)
              obtain ⟨g5, k5, f1⟩ := f1
              obtain ⟨g7, k7, d1⟩ := d1
              obtain ⟨x9, x1⟩ := x1
              refine ks_sub [(0, _), (1, _), (2, _), (3, _)] rfl ?_
              refine ks_aload_n dX16_assemble_273 rfl rfl ?_
              refine ks_aload_n dX16_assemble_274 rfl rfl ?_
              refine ks_getf (T := TX16) (kf := 106) kx_2474 rfl in_X16 cl_X16 (by decide) o2 rfl dX16_assemble_275 rfl ?_
              refine ks_iconst (x := nI 0) dX16_assemble_278 (by decide) rfl ?_
              refine ks_bipush (x := nI 80) dX16_assemble_279 (by decide) rfl ?_
              refine ks_aload_n dX16_assemble_281 rfl rfl ?_
              refine ks_getf (T := TX16) (kf := 86) kx_2454 rfl in_X16 cl_X16 (by decide) o2 rfl dX16_assemble_282 rfl ?_
              refine ks_iconst (x := nI 0) dX16_assemble_285 (by decide) rfl ?_
              refine ks_callV (n := 5) (M' := mX16_again) (c_md_again (d := d + 1) o2 (M1.up u1 (by decide)) (u1.at f1 (by decide)) k5 y1 k1 (i := 0) (n := 80) (by decide) (by decide) (u1.at d1 (by decide)) k7 (oa := 0) (by decide) (by decide) (by decide) (by decide)) o2 cl_X16 rfl kx_1988 kx_1990 kxp_61 kx_30 kx_1991 (by decide +kernel) rfl (by decide) (Nat.le_of_ble_eq_true rfl) rfl dX16_assemble_286 rfl (fun z2 T2 y2 => ?_)
              obtain ⟨rfl, u2, M2, f2, d2⟩ := y2
              have o3 := u2.at o2 (by decide)
              have kd2 : kO (ks_pt (twice_ (fun k => g1 (0 + k)) 80) g7 0 32) := kO_pt (kO_twice _ _) k7 _ _
              have eh : ∀ k, k < 32 → ks_pt (twice_ (fun k => g1 (0 + k)) 80) g7 0 32 k = hsB (sNc M z) k := fun k hk => by
                have e1 := ks_pt_in (twice_ (fun k => g1 (0 + k)) 80) g7 0 32 hk
                rw [Nat.zero_add] at e1
                rw [e1]
                unfold hsB
                rw [twice_congr (m' := mg (sNc M z)) (fun y hy => by rw [Nat.zero_add]; exact hg1 y (by omega))]
              refine ks_aload_n dX16_assemble_289 rfl rfl ?_
              refine ks_getf (T := TX16) (kf := 86) kx_2454 rfl in_X16 cl_X16 (by decide) o3 rfl dX16_assemble_290 rfl ?_
              refine ks_iconst (x := nI 0) dX16_assemble_293 (by decide) rfl ?_
              refine ks_iconst (x := nI 0) dX16_assemble_294 (by decide) rfl ?_
              refine ks_ti (y := ks_bo false) rfl ?_
              refine ks_aload_n dX16_assemble_295 rfl rfl ?_
              refine ks_getf (T := TX16) (kf := 62) kx_2430 rfl in_X16 cl_X16 (by decide) o3 rfl dX16_assemble_296 rfl ?_
              refine ks_callS (n := 4) (M' := mX16_fromBytes) (c_md_fromL (d := d + 4) d2 kd2 (by decide) (by decide) ((x1.up u1 (by decide)).up u2 (by decide)) (by decide)) kx_2043 kx_2044 kx_30 kx_2045 (by decide +kernel) rfl (by decide) (Nat.le_of_ble_eq_true rfl) rfl dX16_assemble_299 rfl (fun z3 T3 y3 => ?_)
              obtain ⟨rfl, u3, w3⟩ := y3
              have eA : dg 256 (fbF false (ks_pt (twice_ (fun k => g1 (0 + k)) 80) g7 0 32) 0) 32 = dg 256 (hsB (sNc M z)) 32 := dg_congr (fun k hk => by
                refine Eq.trans (if_neg (by decide)) ?_
                rw [Nat.zero_add]
                exact eh k hk)
              rw [eA] at w3
              obtain ⟨A9, eA9⟩ : ∃ v, v = dg 256 (hsB (sNc M z)) 32 := ⟨_, rfl⟩
              rw [← eA9] at w3
              have hB9 : fnB M T z = decide (A9 ≤ T) := by unfold fnB; rw [eA9]
              have o4 := u3.at o3 (by decide)
              have w5 : wA T3 532 T := (((w532.up hu (by decide)).up u1 (by decide)).up u2 (by decide)).up u3 (by decide)
              have U3 : ks_up S T3 LAc := ((hu.trans (u1.mono (by decide))).trans (u2.mono (by decide))).trans (u3.mono (by decide))
              have M3 := M2.up u3 (by decide)
              have y3' := u3.at (u2.at y1 (by decide)) (by decide)
              have f3 : ∃ g, kO g ∧ T3.2.2 305 = some (kB 32 g) := by
                obtain ⟨ga, ka, ea⟩ := f2
                exact ⟨ga, ka, u3.at ea (by decide)⟩
              have d3 : ∃ g, kO g ∧ T3.2.2 370 = some (kB 32 g) := ⟨_, kd2, u3.at d2 (by decide)⟩
              refine ks_aload_n dX16_assemble_302 rfl rfl ?_
              refine ks_getf (T := TX16) (kf := 62) kx_2430 rfl in_X16 cl_X16 (by decide) o4 rfl dX16_assemble_303 rfl ?_
              refine ks_aload_n dX16_assemble_306 rfl rfl ?_
              refine ks_getf (T := TX16) (kf := 112) kx_2480 rfl in_X16 cl_X16 (by decide) o4 rfl dX16_assemble_307 rfl ?_
              refine ks_callS (n := 2) (M' := mX15_compare) (c_rg_compare (d := d + 4) w3 w5 (by decide) (by decide)) kx_2035 kx_1870 kx_33 kx_1871 (by decide +kernel) rfl (by decide) (Nat.le_of_ble_eq_true rfl) rfl dX16_assemble_310 rfl (fun z4 T4 y4 => ?_)
              obtain ⟨rfl, hT4⟩ := y4
              obtain rfl := hT4.symm
              refine ks_if_gt (tgt := 320) dX16_assemble_313 (by decide) rfl (fun hc => ?_) (fun hc => ?_)
              · have hb : fnB M T z = false := by rw [hB9]; exact decide_eq_false (cmpN_gt.mp hc)
                refine ks_iconst (x := nI 0) dX16_assemble_320 (by decide) rfl ?_
                refine ks_iload_n dX16_assemble_321 rfl rfl ?_
                refine ks_iconst (x := nI 3) dX16_assemble_322 (by decide) rfl ?_
                refine ks_icmp_neN (tgt := 330) (by decide) (by decide) dX16_assemble_323 (by decide) rfl (fun hc323 => ?_) (fun hc323 => ?_)
                · exact absurd hc323 (by decide)
                · refine ks_iconst (x := nI 1) dX16_assemble_326 (by decide) rfl ?_
                  refine ks_goto (tgt := 331) dX16_assemble_327 (by decide) ?_
                  refine ks_icmp_eqN (tgt := 335) (by decide) (by decide) dX16_assemble_331 (by decide) rfl (fun hc331 => ?_) (fun hc331 => ?_)
                  · exact absurd hc331 (by decide)
                  · refine ks_ret rfl dX16_assemble_334 ?_
                    refine hk T3 U3 o4 M3 f3 d3 ⟨_, w3⟩ ⟨g1, y3', k1, ?_⟩
                    rw [← hf, show fnN M false T (u + 1) z = z from if_pos hb]
                    exact hg1
              · have hb : fnB M T z = true := by rw [hB9]; exact decide_eq_true (Classical.not_not.mp (mt cmpN_gt.mpr hc))
                refine ks_iconst (x := nI 1) dX16_assemble_316 (by decide) rfl ?_
                refine ks_goto (tgt := 321) dX16_assemble_317 (by decide) ?_
                refine ks_iload_n dX16_assemble_321 rfl rfl ?_
                refine ks_iconst (x := nI 3) dX16_assemble_322 (by decide) rfl ?_
                refine ks_icmp_neN (tgt := 330) (by decide) (by decide) dX16_assemble_323 (by decide) rfl (fun hc323 => ?_) (fun hc323 => ?_)
                · exact absurd hc323 (by decide)
                · refine ks_iconst (x := nI 1) dX16_assemble_326 (by decide) rfl ?_
                  refine ks_goto (tgt := 331) dX16_assemble_327 (by decide) ?_
                  refine ks_icmp_eqN (tgt := 335) (by decide) (by decide) dX16_assemble_331 (by decide) rfl (fun hc331 => ?_) (fun hc331 => ?_)
                  · refine ks_incN (c := 1) (e := z + 1) dX16_assemble_335 rfl (by decide) rfl (by decide) rfl ?_
                    refine ks_sub [(3, _), (0, _), (1, _), (2, _)] rfl ?_
                    refine ks_goto (tgt := 233) dX16_assemble_338 (by decide) ?_
                    refine ks_sub [(0, _), (1, _), (2, _), (3, _)] rfl (ih (z + 1) T3 g1 (by omega) ?_ U3 M3 f3 d3 ⟨_, w3⟩ y3' k1 (fun j hj h => (hg1 j hj).trans (nc_out j hj h)) (Or.inr hg1))
                    rw [← hf]
                    exact (if_neg (by rw [hb]; decide)).symm
                  · exact absurd hc331 (by decide)
            · exact absurd hc246 (by decide)
