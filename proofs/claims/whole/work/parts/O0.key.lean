/-! THE REFERENCE: keys, digests -/
theorem kO_beB (V : Nat) : kO (beB V) := fun j => Nat.mod_lt _ (by decide)
def pkX (P : Pt) : Nat := mM P.1 (mM (ivM P.2.2) (ivM P.2.2))
def pkY (P : Pt) : Nat := mM P.2.1 (mM (mM (ivM P.2.2) (ivM P.2.2)) (ivM P.2.2))
theorem zpm {z e m : Nat} (h : z = 0) (he : 0 < e) : z ^ e % m = 0 := by
  subst h
  rw [Nat.zero_pow he, Nat.zero_mod]
theorem ivM_z {z : Nat} (h : z = 0) : ivM z = 0 := by
  unfold ivM
  exact zpm h (by decide)
theorem mM_0 (a : Nat) : mM a 0 = 0 := by
  unfold mM
  rw [Nat.mul_zero, Nat.zero_mod]
theorem pkX_Z {P Q : Pt} (h : ptZ P Q) : pkX P = pkX Q := by
  rcases h with rfl | ⟨h1, h2⟩
  · rfl
  · unfold pkX
    rw [ivM_z h1, ivM_z h2, mM_0, mM_0, mM_0]
theorem pkY_Z {P Q : Pt} (h : ptZ P Q) : pkY P = pkY Q := by
  rcases h with rfl | ⟨h1, h2⟩
  · rfl
  · unfold pkY
    rw [ivM_z h1, ivM_z h2, mM_0, mM_0, mM_0]
/-- c times the first point, as the reference reckons it -/
def rkG (Gp : Pt) (c : Nat) : Pt := rmL Gp c 256 (0, 0, 0)
abbrev LKo : List Nat := [552, 553, 554, 316, 317, 318, 323, 324, 325, 326, 327, 328, 329, 330, 334, 533]
theorem dg_one {g : Nat → Nat} (h : ∀ j, 1 ≤ j → j < 8 → g j = 0) : dg 4294967296 g 8 = g 0 := by
  rw [dg_c, dg_0 (fun k hk => h (k + 1) (by omega) (by omega))]
  omega
set_option maxRecDepth 100000 in
set_option maxHeartbeats 1600000 in
theorem c_md_keyOf {l : Launch} {G : ks_G} {d : Nat} {S : ks_S} {V : Nat → Value} {c : Nat} {gk : Nat → Nat} {Gp : Pt} (hO : S.2.2 290 = some (rfE V)) (hcc : ccS S Gp) (hc : c < 2 ^ 31) (h533 : S.2.2 533 = some (kB 65 gk)) (kgk : kO gk) : ks_P l G yX16_keyOf mX16_keyOf (d + 5) [.ref 290, .int (nI c)] S (fun z S' => z = none ∧ ks_up S S' LKo ∧ ccS S' Gp ∧ wA S' 330 (pkY (rkG Gp c)) ∧ S'.2.2 533 = some (kB 65 (ks_pt (beB (pkY (rkG Gp c))) (ks_pt (beB (pkX (rkG Gp c))) gk 1 32) 33 32))) := by
  obtain ⟨⟨R, hC, hG⟩, hF, h7, hE⟩ := hcc
  obtain ⟨U0, g0, h334, -, -⟩ := hE 334 (by decide) (by decide)
  refine ks_of (by decide) rfl rfl (Nat.le_of_ble_eq_true rfl) ?_
  show ks_X l G mX16_keyOf (d + 5) 0 [(0, .ref 290), (1, .int (nI c))] [] S _
  refine ks_iconst (x := nI 0) dX16_keyOf_0 (by decide) rfl ?_
  refine ks_istore_n dX16_keyOf_1 (by decide) rfl ?_
  refine ks_sub [(2, _), (0, _), (1, _)] rfl ?_
  refine ks_iload_n dX16_keyOf_2 rfl rfl ?_
  refine ks_bipush (x := nI 8) dX16_keyOf_3 (by decide) rfl ?_
  refine ks_icmp_geN (tgt := 29) (by decide) (by decide) dX16_keyOf_5 (by decide) rfl (fun hc5 => ?_) (fun hc5 => ?_)
  · exact absurd hc5 (by decide)
  · refine ks_aload_n dX16_keyOf_8 rfl rfl ?_
    refine ks_getf (T := TX16) (kf := 33) kx_2401 rfl in_X16 cl_X16 (by decide) hO rfl dX16_keyOf_9 rfl ?_
    refine ks_iload_n dX16_keyOf_12 rfl rfl ?_
    refine ks_iload_n dX16_keyOf_13 rfl rfl ?_
    refine ks_if_neN (tgt := 21) (by decide) dX16_keyOf_14 (by decide) rfl (fun hc14 => ?_) (fun hc14 => ?_)
    · exact absurd hc14 (by decide)
    · refine ks_iload_n dX16_keyOf_17 rfl rfl ?_
      refine ks_goto (tgt := 22) dX16_keyOf_18 (by decide) ?_
      refine ks_iastNN (i := 0) (v := c) (by decide) h334 (by decide) (by decide) dX16_keyOf_22 rfl ?_
      refine ks_incN (c := 1) (e := 1) dX16_keyOf_23 rfl (by decide) rfl (by decide) rfl ?_
      refine ks_sub [(2, _), (0, _), (1, _)] rfl ?_
      refine ks_goto (tgt := 2) dX16_keyOf_26 (by decide) ?_
      refine ks_iload_n dX16_keyOf_2 rfl rfl ?_
      refine ks_bipush (x := nI 8) dX16_keyOf_3 (by decide) rfl ?_
      refine ks_icmp_geN (tgt := 29) (by decide) (by decide) dX16_keyOf_5 (by decide) rfl (fun hc5 => ?_) (fun hc5 => ?_)
      · exact absurd hc5 (by decide)
      · refine ks_aload_n dX16_keyOf_8 rfl rfl ?_
        refine ks_getf (T := TX16) (kf := 33) kx_2401 rfl in_X16 cl_X16 (by decide) ((ks_set_ne _ _ (by decide)).trans hO) rfl dX16_keyOf_9 rfl ?_
        refine ks_iload_n dX16_keyOf_12 rfl rfl ?_
        refine ks_iload_n dX16_keyOf_13 rfl rfl ?_
        refine ks_if_neN (tgt := 21) (by decide) dX16_keyOf_14 (by decide) rfl (fun hc14 => ?_) (fun hc14 => ?_)
        · refine ks_iconst (x := nI 0) dX16_keyOf_21 (by decide) rfl ?_
          refine ks_iastNN (i := 1) (v := 0) (by decide) (ks_set_same _ _ _) (by decide) (by decide) dX16_keyOf_22 rfl ?_
          refine ks_incN (c := 1) (e := 2) dX16_keyOf_23 rfl (by decide) rfl (by decide) rfl ?_
          refine ks_sub [(2, _), (0, _), (1, _)] rfl ?_
          refine ks_goto (tgt := 2) dX16_keyOf_26 (by decide) ?_
          refine ks_iload_n dX16_keyOf_2 rfl rfl ?_
          refine ks_bipush (x := nI 8) dX16_keyOf_3 (by decide) rfl ?_
          refine ks_icmp_geN (tgt := 29) (by decide) (by decide) dX16_keyOf_5 (by decide) rfl (fun hc5 => ?_) (fun hc5 => ?_)
          · exact absurd hc5 (by decide)
          · refine ks_aload_n dX16_keyOf_8 rfl rfl ?_
            refine ks_getf (T := TX16) (kf := 33) kx_2401 rfl in_X16 cl_X16 (by decide) ((ks_set_ne _ _ (by decide)).trans ((ks_set_ne _ _ (by decide)).trans hO)) rfl dX16_keyOf_9 rfl ?_
            refine ks_iload_n dX16_keyOf_12 rfl rfl ?_
            refine ks_iload_n dX16_keyOf_13 rfl rfl ?_
            refine ks_if_neN (tgt := 21) (by decide) dX16_keyOf_14 (by decide) rfl (fun hc14 => ?_) (fun hc14 => ?_)
            · refine ks_iconst (x := nI 0) dX16_keyOf_21 (by decide) rfl ?_
              refine ks_iastNN (i := 2) (v := 0) (by decide) (ks_set_same _ _ _) (by decide) (by decide) dX16_keyOf_22 rfl ?_
              refine ks_incN (c := 1) (e := 3) dX16_keyOf_23 rfl (by decide) rfl (by decide) rfl ?_
              refine ks_sub [(2, _), (0, _), (1, _)] rfl ?_
              refine ks_goto (tgt := 2) dX16_keyOf_26 (by decide) ?_
              refine ks_iload_n dX16_keyOf_2 rfl rfl ?_
              refine ks_bipush (x := nI 8) dX16_keyOf_3 (by decide) rfl ?_
              refine ks_icmp_geN (tgt := 29) (by decide) (by decide) dX16_keyOf_5 (by decide) rfl (fun hc5 => ?_) (fun hc5 => ?_)
              · exact absurd hc5 (by decide)
              · refine ks_aload_n dX16_keyOf_8 rfl rfl ?_
                refine ks_getf (T := TX16) (kf := 33) kx_2401 rfl in_X16 cl_X16 (by decide) ((ks_set_ne _ _ (by decide)).trans ((ks_set_ne _ _ (by decide)).trans ((ks_set_ne _ _ (by decide)).trans hO))) rfl dX16_keyOf_9 rfl ?_
                refine ks_iload_n dX16_keyOf_12 rfl rfl ?_
                refine ks_iload_n dX16_keyOf_13 rfl rfl ?_
                refine ks_if_neN (tgt := 21) (by decide) dX16_keyOf_14 (by decide) rfl (fun hc14 => ?_) (fun hc14 => ?_)
                · refine ks_iconst (x := nI 0) dX16_keyOf_21 (by decide) rfl ?_
                  refine ks_iastNN (i := 3) (v := 0) (by decide) (ks_set_same _ _ _) (by decide) (by decide) dX16_keyOf_22 rfl ?_
                  refine ks_incN (c := 1) (e := 4) dX16_keyOf_23 rfl (by decide) rfl (by decide) rfl ?_
                  refine ks_sub [(2, _), (0, _), (1, _)] rfl ?_
                  refine ks_goto (tgt := 2) dX16_keyOf_26 (by decide) ?_
                  refine ks_iload_n dX16_keyOf_2 rfl rfl ?_
                  refine ks_bipush (x := nI 8) dX16_keyOf_3 (by decide) rfl ?_
                  refine ks_icmp_geN (tgt := 29) (by decide) (by decide) dX16_keyOf_5 (by decide) rfl (fun hc5 => ?_) (fun hc5 => ?_)
                  · exact absurd hc5 (by decide)
                  · refine ks_aload_n dX16_keyOf_8 rfl rfl ?_
                    refine ks_getf (T := TX16) (kf := 33) kx_2401 rfl in_X16 cl_X16 (by decide) ((ks_set_ne _ _ (by decide)).trans ((ks_set_ne _ _ (by decide)).trans ((ks_set_ne _ _ (by decide)).trans ((ks_set_ne _ _ (by decide)).trans hO)))) rfl dX16_keyOf_9 rfl ?_
                    refine ks_iload_n dX16_keyOf_12 rfl rfl ?_
                    refine ks_iload_n dX16_keyOf_13 rfl rfl ?_
                    refine ks_if_neN (tgt := 21) (by decide) dX16_keyOf_14 (by decide) rfl (fun hc14 => ?_) (fun hc14 => ?_)
                    · refine ks_iconst (x := nI 0) dX16_keyOf_21 (by decide) rfl ?_
                      refine ks_iastNN (i := 4) (v := 0) (by decide) (ks_set_same _ _ _) (by decide) (by decide) dX16_keyOf_22 rfl ?_
                      refine ks_incN (c := 1) (e := 5) dX16_keyOf_23 rfl (by decide) rfl (by decide) rfl ?_
                      refine ks_sub [(2, _), (0, _), (1, _)] rfl ?_
                      refine ks_goto (tgt := 2) dX16_keyOf_26 (by decide) ?_
                      refine ks_iload_n dX16_keyOf_2 rfl rfl ?_
                      refine ks_bipush (x := nI 8) dX16_keyOf_3 (by decide) rfl ?_
                      refine ks_icmp_geN (tgt := 29) (by decide) (by decide) dX16_keyOf_5 (by decide) rfl (fun hc5 => ?_) (fun hc5 => ?_)
                      · exact absurd hc5 (by decide)
                      · refine ks_aload_n dX16_keyOf_8 rfl rfl ?_
                        refine ks_getf (T := TX16) (kf := 33) kx_2401 rfl in_X16 cl_X16 (by decide) ((ks_set_ne _ _ (by decide)).trans ((ks_set_ne _ _ (by decide)).trans ((ks_set_ne _ _ (by decide)).trans ((ks_set_ne _ _ (by decide)).trans ((ks_set_ne _ _ (by decide)).trans hO))))) rfl dX16_keyOf_9 rfl ?_
                        refine ks_iload_n dX16_keyOf_12 rfl rfl ?_
                        refine ks_iload_n dX16_keyOf_13 rfl rfl ?_
                        refine ks_if_neN (tgt := 21) (by decide) dX16_keyOf_14 (by decide) rfl (fun hc14 => ?_) (fun hc14 => ?_)
                        · refine ks_iconst (x := nI 0) dX16_keyOf_21 (by decide) rfl ?_
                          refine ks_iastNN (i := 5) (v := 0) (by decide) (ks_set_same _ _ _) (by decide) (by decide) dX16_keyOf_22 rfl ?_
                          refine ks_incN (c := 1) (e := 6) dX16_keyOf_23 rfl (by decide) rfl (by decide) rfl ?_
                          refine ks_sub [(2, _), (0, _), (1, _)] rfl ?_
                          refine ks_goto (tgt := 2) dX16_keyOf_26 (by decide) ?_
                          refine ks_iload_n dX16_keyOf_2 rfl rfl ?_
                          refine ks_bipush (x := nI 8) dX16_keyOf_3 (by decide) rfl ?_
                          refine ks_icmp_geN (tgt := 29) (by decide) (by decide) dX16_keyOf_5 (by decide) rfl (fun hc5 => ?_) (fun hc5 => ?_)
                          · exact absurd hc5 (by decide)
                          · refine ks_aload_n dX16_keyOf_8 rfl rfl ?_
                            refine ks_getf (T := TX16) (kf := 33) kx_2401 rfl in_X16 cl_X16 (by decide) ((ks_set_ne _ _ (by decide)).trans ((ks_set_ne _ _ (by decide)).trans ((ks_set_ne _ _ (by decide)).trans ((ks_set_ne _ _ (by decide)).trans ((ks_set_ne _ _ (by decide)).trans ((ks_set_ne _ _ (by decide)).trans hO)))))) rfl dX16_keyOf_9 rfl ?_
                            refine ks_iload_n dX16_keyOf_12 rfl rfl ?_
                            refine ks_iload_n dX16_keyOf_13 rfl rfl ?_
                            refine ks_if_neN (tgt := 21) (by decide) dX16_keyOf_14 (by decide) rfl (fun hc14 => ?_) (fun hc14 => ?_)
                            · refine ks_iconst (x := nI 0) dX16_keyOf_21 (by decide) rfl ?_
                              refine ks_iastNN (i := 6) (v := 0) (by decide) (ks_set_same _ _ _) (by decide) (by decide) dX16_keyOf_22 rfl ?_
                              refine ks_incN (c := 1) (e := 7) dX16_keyOf_23 rfl (by decide) rfl (by decide) rfl ?_
                              refine ks_sub [(2, _), (0, _), (1, _)] rfl ?_
                              refine ks_goto (tgt := 2) dX16_keyOf_26 (by decide) ?_
                              refine ks_iload_n dX16_keyOf_2 rfl rfl ?_
                              refine ks_bipush (x := nI 8) dX16_keyOf_3 (by decide) rfl ?_
                              refine ks_icmp_geN (tgt := 29) (by decide) (by decide) dX16_keyOf_5 (by decide) rfl (fun hc5 => ?_) (fun hc5 => ?_)
                              · exact absurd hc5 (by decide)
                              · refine ks_aload_n dX16_keyOf_8 rfl rfl ?_
                                refine ks_getf (T := TX16) (kf := 33) kx_2401 rfl in_X16 cl_X16 (by decide) ((ks_set_ne _ _ (by decide)).trans ((ks_set_ne _ _ (by decide)).trans ((ks_set_ne _ _ (by decide)).trans ((ks_set_ne _ _ (by decide)).trans ((ks_set_ne _ _ (by decide)).trans ((ks_set_ne _ _ (by decide)).trans ((ks_set_ne _ _ (by decide)).trans hO))))))) rfl dX16_keyOf_9 rfl ?_
                                refine ks_iload_n dX16_keyOf_12 rfl rfl ?_
                                refine ks_iload_n dX16_keyOf_13 rfl rfl ?_
                                refine ks_if_neN (tgt := 21) (by decide) dX16_keyOf_14 (by decide) rfl (fun hc14 => ?_) (fun hc14 => ?_)
                                · refine ks_iconst (x := nI 0) dX16_keyOf_21 (by decide) rfl ?_
                                  refine ks_iastNN (i := 7) (v := 0) (by decide) (ks_set_same _ _ _) (by decide) (by decide) dX16_keyOf_22 rfl ?_
                                  refine ks_incN (c := 1) (e := 8) dX16_keyOf_23 rfl (by decide) rfl (by decide) rfl ?_
                                  refine ks_sub [(2, _), (0, _), (1, _)] rfl ?_
                                  refine ks_goto (tgt := 2) dX16_keyOf_26 (by decide) ?_
                                  refine ks_iload_n dX16_keyOf_2 rfl rfl ?_
                                  refine ks_bipush (x := nI 8) dX16_keyOf_3 (by decide) rfl ?_
                                  refine ks_icmp_geN (tgt := 29) (by decide) (by decide) dX16_keyOf_5 (by decide) rfl (fun hc5 => ?_) (fun hc5 => ?_)
                                  · refine ks_nm (fun S1 e1 => ?_)
                                    have u1 : ks_up S S1 [334] := by rw [e1]; exact ks_upL (ks_upL (ks_upL (ks_upL (ks_upL (ks_upL (ks_upL (ks_up_set _ _ (List.mem_singleton.mpr rfl)) (List.mem_singleton.mpr rfl)) (List.mem_singleton.mpr rfl)) (List.mem_singleton.mpr rfl)) (List.mem_singleton.mpr rfl)) (List.mem_singleton.mpr rfl)) (List.mem_singleton.mpr rfl)) (List.mem_singleton.mpr rfl)
                                    obtain ⟨g1, eg1⟩ : ∃ z, z = (va_up (va_up (va_up (va_up (va_up (va_up (va_up (va_up g0 0 c) 1 0) 2 0) 3 0) 4 0) 5 0) 6 0) 7 0) := ⟨_, rfl⟩
                                    have x1 : S1.2.2 334 = some (kN 8 g1) := by rw [e1, eg1]; exact ks_set_same _ _ _
                                    clear e1
                                    have z1 : ∀ j, 1 ≤ j → j < 8 → g1 j = 0 := fun j h1 h2 => by
                                      rw [eg1]
                                      rcases (show j = 1 ∨ j = 2 ∨ j = 3 ∨ j = 4 ∨ j = 5 ∨ j = 6 ∨ j = 7 by omega) with rfl | rfl | rfl | rfl | rfl | rfl | rfl <;> rfl
                                    have z0 : g1 0 = c := by rw [eg1]; rfl
                                    have w1 : wA S1 334 c := ⟨g1, x1, fun j hj => by
                                      by_cases h : j = 0
                                      · rw [h, z0]; omega
                                      · rw [z1 j (by omega) hj]; decide, by rw [dg_one z1, z0]⟩
                                    have n1 : ∀ {a : Nat}, a ≠ 334 → a ∉ [334] := fun h => by rw [List.mem_singleton]; exact h
                                    have C1 := hC.up u1 (fun x hx => by rw [List.mem_singleton] at hx; omega)
                                    have o1 := u1.at hO (by decide)
                                    refine ks_sub [(0, _), (1, _)] rfl ?_
                                    refine ks_aload_n dX16_keyOf_29 rfl rfl ?_
                                    refine ks_aload_n dX16_keyOf_30 rfl rfl ?_
                                    refine ks_getf (T := TX16) (kf := 33) kx_2401 rfl in_X16 cl_X16 (by decide) o1 rfl dX16_keyOf_31 rfl ?_
                                    refine ks_aload_n dX16_keyOf_34 rfl rfl ?_
                                    refine ks_getf (T := TX16) (kf := 18) kx_2386 rfl in_X16 cl_X16 (by decide) o1 rfl dX16_keyOf_35 rfl ?_
                                    refine ks_aload_n dX16_keyOf_38 rfl rfl ?_
                                    refine ks_getf (T := TX16) (kf := 20) kx_2388 rfl in_X16 cl_X16 (by decide) o1 rfl dX16_keyOf_39 rfl ?_
                                    refine ks_callV (n := 3) (M' := mX16_times_) (c_md_times307 o1 C1 w1 (by decide)) o1 cl_X16 rfl kx_2309 kx_2311 kxp_115 kx_30 kx_2312 (by decide +kernel) rfl (by decide) (Nat.le_of_ble_eq_true rfl) rfl dX16_keyOf_42 rfl (fun z2 S2 y2 => ?_)
                                    obtain ⟨rfl, u2, R2, C2, e2, k2⟩ := y2
                                    have o2 := u2.at o1 (by decide)
                                    obtain ⟨X0, hX0⟩ := hE 329 (by decide) (by decide)
                                    obtain ⟨Y0, hY0⟩ := hE 330 (by decide) (by decide)
                                    refine ks_aload_n dX16_keyOf_45 rfl rfl ?_
                                    refine ks_aload_n dX16_keyOf_46 rfl rfl ?_
                                    refine ks_getf (T := TX16) (kf := 20) kx_2388 rfl in_X16 cl_X16 (by decide) o2 rfl dX16_keyOf_47 rfl ?_
                                    refine ks_aload_n dX16_keyOf_50 rfl rfl ?_
                                    refine ks_getf (T := TX16) (kf := 28) kx_2396 rfl in_X16 cl_X16 (by decide) o2 rfl dX16_keyOf_51 rfl ?_
                                    refine ks_aload_n dX16_keyOf_54 rfl rfl ?_
                                    refine ks_getf (T := TX16) (kf := 29) kx_2397 rfl in_X16 cl_X16 (by decide) o2 rfl dX16_keyOf_55 rfl ?_
                                    refine ks_callV (n := 3) (M' := mX16_flat) (c_md_flat (d := d + 1) o2 C2 ((hX0.up u1 (by decide)).up u2 (by decide)) ((hY0.up u1 (by decide)).up u2 (by decide))) o2 cl_X16 rfl kx_2326 kx_2328 kxp_118 kx_30 kx_2329 (by decide +kernel) rfl (by decide) (Nat.le_of_ble_eq_true rfl) rfl dX16_keyOf_58 rfl (fun z3 S3 y3 => ?_)
                                    obtain ⟨rfl, u3, R3, C3, k3, wX, wY⟩ := y3
                                    have o3 := u3.at o2 (by decide)
                                    have ePZ : ptZ (R2 316, R2 317, R2 318) (rkG Gp c) := by
                                      have e9 : ((R2 316, R2 317, R2 318) : Pt) = rmL Gp c 256 (R 316, R 317, 0) := by
                                        rw [← hG]
                                        exact e2
                                      rw [e9]
                                      exact ptZ.L (Or.inr ⟨rfl, rfl⟩)
                                    have eX := pkX_Z ePZ
                                    have eY := pkY_Z ePZ
                                    rw [show mM (R2 316) (mM (ivM (R2 318)) (ivM (R2 318))) = pkX (rkG Gp c) from eX] at wX
                                    rw [show mM (R2 317) (mM (mM (ivM (R2 318)) (ivM (R2 318))) (ivM (R2 318))) = pkY (rkG Gp c) from eY] at wY
                                    obtain ⟨X, hX⟩ : ∃ X, X = pkX (rkG Gp c) := ⟨_, rfl⟩
                                    obtain ⟨Y, hY⟩ : ∃ Y, Y = pkY (rkG Gp c) := ⟨_, rfl⟩
                                    rw [← hX] at wX
                                    rw [← hY] at wY
                                    rw [← hX, ← hY]
                                    clear eX eY hX hY ePZ
                                    have b3 := u3.at (u2.at (u1.at h533 (by decide)) (by decide)) (by decide)
                                    refine ks_aload_n dX16_keyOf_61 rfl rfl ?_
                                    refine ks_getf (T := TX16) (kf := 28) kx_2396 rfl in_X16 cl_X16 (by decide) o3 rfl dX16_keyOf_62 rfl ?_
                                    refine ks_aload_n dX16_keyOf_65 rfl rfl ?_
                                    refine ks_getf (T := TX16) (kf := 113) kx_2481 rfl in_X16 cl_X16 (by decide) o3 rfl dX16_keyOf_66 rfl ?_
                                    refine ks_iconst (x := nI 1) dX16_keyOf_69 (by decide) rfl ?_
                                    refine ks_callS (n := 3) (M' := mX16_toBytes) (c_md_toBytes wX b3 kgk (i := 1) (by decide) (by decide) (by decide)) kx_2758 kx_2759 kx_30 kx_2760 (by decide +kernel) rfl (by decide) (Nat.le_of_ble_eq_true rfl) rfl dX16_keyOf_70 rfl (fun z4 S4 y4 => ?_)
                                    obtain ⟨rfl, u4, b4⟩ := y4
                                    have o4 := u4.at o3 (by decide)
                                    refine ks_aload_n dX16_keyOf_73 rfl rfl ?_
                                    refine ks_getf (T := TX16) (kf := 29) kx_2397 rfl in_X16 cl_X16 (by decide) o4 rfl dX16_keyOf_74 rfl ?_
                                    refine ks_aload_n dX16_keyOf_77 rfl rfl ?_
                                    refine ks_getf (T := TX16) (kf := 113) kx_2481 rfl in_X16 cl_X16 (by decide) o4 rfl dX16_keyOf_78 rfl ?_
                                    refine ks_bipush (x := nI 33) dX16_keyOf_81 (by decide) rfl ?_
                                    refine ks_callS (n := 3) (M' := mX16_toBytes) (c_md_toBytes (wY.up u4 (by decide)) b4 (kO_pt (kO_beB _) kgk _ _) (i := 33) (by decide) (by decide) (by decide)) kx_2758 kx_2759 kx_30 kx_2760 (by decide +kernel) rfl (by decide) (Nat.le_of_ble_eq_true rfl) rfl dX16_keyOf_83 rfl (fun z5 S5 y5 => ?_)
                                    obtain ⟨rfl, u5, b5⟩ := y5
                                    refine ks_ret rfl dX16_keyOf_86 ?_
                                    have ua : ks_up S S5 LKo := (((((u1.mono (by decide)).trans (u2.mono (by decide))).trans (u3.mono (by decide))).trans (u4.mono (by decide))).trans (u5.mono (by decide)))
                                    have nL : ∀ {a : Nat}, (a < 316 ∨ (318 < a ∧ a < 323) ∨ (334 < a ∧ a < 533) ∨ (533 < a ∧ a < 552) ∨ 554 < a) → a ∉ LKo := fun h hm => by
                                      simp only [LKo, List.mem_cons, List.not_mem_nil, or_false] at hm
                                      omega
                                    refine ⟨rfl, ua, ⟨⟨R3, (C3.up u4 (by decide)).up u5 (by decide), ?_⟩, hF.up ua (fun x hx => ?_), ?_, ?_⟩, (wY.up u4 (by decide)).up u5 (by decide), b5⟩
                                    · rw [← hG]
                                      unfold ptR
                                      rw [k3 308 (by decide), k3 309 (by decide), k3 310 (by decide), k2 308 (by decide) (by decide), k2 309 (by decide) (by decide), k2 310 (by decide) (by decide)]
                                    · simp only [LKo, List.mem_cons, List.not_mem_nil, or_false] at hx
                                      omega
                                    · exact ⟨h7.1.up ua (nL (by decide)), h7.2⟩
                                    · refine hE.up ua (fun k hk h1 h2 => ?_)
                                      simp only [LKo, List.mem_cons, List.not_mem_nil, or_false] at hk
                                      rcases (show k = 329 ∨ k = 330 ∨ k = 334 by omega) with rfl | rfl | rfl
                                      · exact ⟨_, (wX.up u4 (by decide)).up u5 (by decide)⟩
                                      · exact ⟨_, (wY.up u4 (by decide)).up u5 (by decide)⟩
                                      · exact ⟨_, (((w1.up u2 (by decide)).up u3 (by decide)).up u4 (by decide)).up u5 (by decide)⟩
                                  · exact absurd hc5 (by decide)
                                · exact absurd hc14 (by decide)
                            · exact absurd hc14 (by decide)
                        · exact absurd hc14 (by decide)
                    · exact absurd hc14 (by decide)
                · exact absurd hc14 (by decide)
            · exact absurd hc14 (by decide)
        · exact absurd hc14 (by decide)
set_option maxRecDepth 100000 in
set_option maxHeartbeats 800000 in
theorem r_key {l : Launch} {G : ks_G} {d : Nat} {S : ks_S} {V : Nat → Value} (hO : S.2.2 290 = some (rfE V)) {T : List Nat} (hB : buX S V 531 1600 110 T) {x f : Int32} (hx : ¬ (¬ x < nI 1 ∧ ¬ f < 0 ∧ f ≤ nI 2)) : ks_P l G yX16_key mX16_key (d + 1) [.ref 290, .int x, .int f] S (fun z S' => z = some (.int (nI 0)) ∧ ∃ V', pbK [] [111] S S' V V' ∧ V' 111 = .int (nI 1)) := by
  obtain ⟨vT, g, eT, kg, hT, em⟩ := id hB
  refine ks_of (by decide) rfl rfl (Nat.le_of_ble_eq_true rfl) ?_
  show ks_X l G mX16_key (d + 1) 0 [(0, .ref 290), (1, .int x), (2, .int f)] [] S _
  refine ks_aload_n dX16_key_0 rfl rfl ?_
  refine ks_iload_n dX16_key_1 rfl rfl ?_
  refine ks_iconst (x := nI 1) dX16_key_2 (by decide) rfl ?_
  refine ks_icmp_lt (tgt := 19) dX16_key_3 (by decide) rfl (fun hc3 => ?_) (fun hc3 => ?_)
  · refine ks_iconst (x := nI 0) dX16_key_19 (by decide) rfl ?_
    refine ks_iconst (x := nI 1) dX16_key_20 (by decide) rfl ?_
    refine ks_callV (n := 2) (M' := mX16_good) (c_md_good0 hO) hO cl_X16 rfl kx_2734 kx_2736 kxp_127 kx_30 kx_2737 (by decide +kernel) rfl (by decide) (Nat.le_of_ble_eq_true rfl) rfl dX16_key_21 rfl (fun z21 S21 y21 => ?_)
    obtain ⟨rfl, V21, J21, v21⟩ := y21
    refine ks_if_eqN (tgt := 72) (by decide) dX16_key_24 (by decide) rfl (fun hc24 => ?_) (fun hc24 => ?_)
    · refine ks_iconst (x := nI 0) dX16_key_72 (by decide) rfl ?_
      refine ks_iret rfl dX16_key_73 ?_
      exact ⟨rfl, _, J21, v21⟩
    · exact absurd hc24 (by decide)
  · refine ks_iload_n dX16_key_6 rfl rfl ?_
    refine ks_if_lt (tgt := 19) dX16_key_7 (by decide) rfl (fun hc7 => ?_) (fun hc7 => ?_)
    · refine ks_iconst (x := nI 0) dX16_key_19 (by decide) rfl ?_
      refine ks_iconst (x := nI 1) dX16_key_20 (by decide) rfl ?_
      refine ks_callV (n := 2) (M' := mX16_good) (c_md_good0 hO) hO cl_X16 rfl kx_2734 kx_2736 kxp_127 kx_30 kx_2737 (by decide +kernel) rfl (by decide) (Nat.le_of_ble_eq_true rfl) rfl dX16_key_21 rfl (fun z21 S21 y21 => ?_)
      obtain ⟨rfl, V21, J21, v21⟩ := y21
      refine ks_if_eqN (tgt := 72) (by decide) dX16_key_24 (by decide) rfl (fun hc24 => ?_) (fun hc24 => ?_)
      · refine ks_iconst (x := nI 0) dX16_key_72 (by decide) rfl ?_
        refine ks_iret rfl dX16_key_73 ?_
        exact ⟨rfl, _, J21, v21⟩
      · exact absurd hc24 (by decide)
    · refine ks_iload_n dX16_key_10 rfl rfl ?_
      refine ks_iconst (x := nI 2) dX16_key_11 (by decide) rfl ?_
      refine ks_icmp_gt (tgt := 19) dX16_key_12 (by decide) rfl (fun hc12 => ?_) (fun hc12 => ?_)
      · refine ks_iconst (x := nI 0) dX16_key_19 (by decide) rfl ?_
        refine ks_iconst (x := nI 1) dX16_key_20 (by decide) rfl ?_
        refine ks_callV (n := 2) (M' := mX16_good) (c_md_good0 hO) hO cl_X16 rfl kx_2734 kx_2736 kxp_127 kx_30 kx_2737 (by decide +kernel) rfl (by decide) (Nat.le_of_ble_eq_true rfl) rfl dX16_key_21 rfl (fun z21 S21 y21 => ?_)
        obtain ⟨rfl, V21, J21, v21⟩ := y21
        refine ks_if_eqN (tgt := 72) (by decide) dX16_key_24 (by decide) rfl (fun hc24 => ?_) (fun hc24 => ?_)
        · refine ks_iconst (x := nI 0) dX16_key_72 (by decide) rfl ?_
          refine ks_iret rfl dX16_key_73 ?_
          exact ⟨rfl, _, J21, v21⟩
        · exact absurd hc24 (by decide)
      · refine ks_iconst (x := nI 1) dX16_key_15 (by decide) rfl ?_
        refine ks_goto (tgt := 20) dX16_key_16 (by decide) ?_
        refine ks_iconst (x := nI 1) dX16_key_20 (by decide) rfl ?_
        exact absurd ⟨hc3, hc7, Int32.not_lt.mp hc12⟩ hx
set_option maxRecDepth 100000 in
set_option maxHeartbeats 800000 in
theorem r_keyF0 {l : Launch} {G : ks_G} {d : Nat} {S : ks_S} {V : Nat → Value} (hO : S.2.2 290 = some (rfE V)) {T : List Nat} (hB : buX S V 531 1600 110 T) {x : Int32} (hx : ¬ x < nI 1) (hf : 1600 < T.length + 33) : ks_P l G yX16_key mX16_key (d + 1) [.ref 290, .int x, .int (nI 0)] S (fun z S' => z = some (.int (nI 0)) ∧ ∃ V', pbK [] [111] S S' V V' ∧ V' 111 = .int (nI 2)) := by
  obtain ⟨vT, g, eT, kg, hT, em⟩ := id hB
  refine ks_of (by decide) rfl rfl (Nat.le_of_ble_eq_true rfl) ?_
  show ks_X l G mX16_key (d + 1) 0 [(0, .ref 290), (1, .int x), (2, .int (nI 0))] [] S _
  refine ks_aload_n dX16_key_0 rfl rfl ?_
  refine ks_iload_n dX16_key_1 rfl rfl ?_
  refine ks_iconst (x := nI 1) dX16_key_2 (by decide) rfl ?_
  refine ks_icmp_lt (tgt := 19) dX16_key_3 (by decide) rfl (fun hc3 => ?_) (fun hc3 => ?_)
  · exact absurd hc3 hx
  · refine ks_iload_n dX16_key_6 rfl rfl ?_
    refine ks_if_ltN (tgt := 19) (by decide) dX16_key_7 (by decide) rfl ?_
    refine ks_iload_n dX16_key_10 rfl rfl ?_
    refine ks_iconst (x := nI 2) dX16_key_11 (by decide) rfl ?_
    refine ks_icmp_gtN (tgt := 19) (by decide) (by decide) dX16_key_12 (by decide) rfl (fun hc12 => ?_) (fun hc12 => ?_)
    · exact absurd hc12 (by decide)
    · refine ks_iconst (x := nI 1) dX16_key_15 (by decide) rfl ?_
      refine ks_goto (tgt := 20) dX16_key_16 (by decide) ?_
      refine ks_iconst (x := nI 1) dX16_key_20 (by decide) rfl ?_
      refine ks_callV (n := 2) (M' := mX16_good) (c_md_good1 hO) hO cl_X16 rfl kx_2734 kx_2736 kxp_127 kx_30 kx_2737 (by decide +kernel) rfl (by decide) (Nat.le_of_ble_eq_true rfl) rfl dX16_key_21 rfl (fun z21 S21 y21 => ?_)
      obtain ⟨rfl, V21, J21, v21⟩ := y21
      refine ks_if_eqN (tgt := 72) (by decide) dX16_key_24 (by decide) rfl (fun hc24 => ?_) (fun hc24 => ?_)
      · exact absurd hc24 (by decide)
      · refine ks_aload_n dX16_key_27 rfl rfl ?_
        refine ks_aload_n dX16_key_28 rfl rfl ?_
        refine ks_getf (T := TX16) (kf := 110) kx_2478 rfl in_X16 cl_X16 (by decide) J21.2.1 rfl dX16_key_29 rfl ?_
        refine ks_tv ((J21.2.2 110 (by decide)).trans vT) ?_
        refine ks_iload_n dX16_key_32 rfl rfl ?_
        refine ks_if_neN (tgt := 41) (by decide) dX16_key_33 (by decide) rfl (fun hc33 => ?_) (fun hc33 => ?_)
        · exact absurd hc33 (by decide)
        · refine ks_bipush (x := nI 33) dX16_key_36 (by decide) rfl ?_
          refine ks_goto (tgt := 53) dX16_key_38 (by decide) ?_
          refine ks_addN dX16_key_53 rfl ?_
          refine ks_sipush (x := nI 1600) dX16_key_54 (by decide) rfl ?_
          refine ks_icmp_gtN (tgt := 64) (by omega) (by decide) dX16_key_57 (by decide) rfl (fun hc57 => ?_) (fun hc57 => ?_)
          · refine ks_iconst (x := nI 0) dX16_key_64 (by decide) rfl ?_
            refine ks_iconst (x := nI 2) dX16_key_65 (by decide) rfl ?_
            refine ks_callV (n := 2) (M' := mX16_good) (c_md_good0 J21.2.1) J21.2.1 cl_X16 rfl kx_2734 kx_2736 kxp_127 kx_30 kx_2737 (by decide +kernel) rfl (by decide) (Nat.le_of_ble_eq_true rfl) rfl dX16_key_66 rfl (fun z66 S66 y66 => ?_)
            obtain ⟨rfl, V66, J66, v66⟩ := y66
            have K66 := J21.trans J66
            refine ks_if_neN (tgt := 74) (by decide) dX16_key_69 (by decide) rfl (fun hc69 => ?_) (fun hc69 => ?_)
            · exact absurd hc69 (by decide)
            · refine ks_iconst (x := nI 0) dX16_key_72 (by decide) rfl ?_
              refine ks_iret rfl dX16_key_73 ?_
              exact ⟨rfl, _, K66, v66⟩
          · refine ks_iconst (x := nI 1) dX16_key_60 (by decide) rfl ?_
            refine ks_goto (tgt := 65) dX16_key_61 (by decide) ?_
            refine ks_iconst (x := nI 2) dX16_key_65 (by decide) rfl ?_
            omega
set_option maxRecDepth 100000 in
set_option maxHeartbeats 800000 in
theorem r_keyF1 {l : Launch} {G : ks_G} {d : Nat} {S : ks_S} {V : Nat → Value} (hO : S.2.2 290 = some (rfE V)) {T : List Nat} (hB : buX S V 531 1600 110 T) {x : Int32} (hx : ¬ x < nI 1) (hf : 1600 < T.length + 65) : ks_P l G yX16_key mX16_key (d + 1) [.ref 290, .int x, .int (nI 1)] S (fun z S' => z = some (.int (nI 0)) ∧ ∃ V', pbK [] [111] S S' V V' ∧ V' 111 = .int (nI 2)) := by
  obtain ⟨vT, g, eT, kg, hT, em⟩ := id hB
  refine ks_of (by decide) rfl rfl (Nat.le_of_ble_eq_true rfl) ?_
  show ks_X l G mX16_key (d + 1) 0 [(0, .ref 290), (1, .int x), (2, .int (nI 1))] [] S _
  refine ks_aload_n dX16_key_0 rfl rfl ?_
  refine ks_iload_n dX16_key_1 rfl rfl ?_
  refine ks_iconst (x := nI 1) dX16_key_2 (by decide) rfl ?_
  refine ks_icmp_lt (tgt := 19) dX16_key_3 (by decide) rfl (fun hc3 => ?_) (fun hc3 => ?_)
  · exact absurd hc3 hx
  · refine ks_iload_n dX16_key_6 rfl rfl ?_
    refine ks_if_ltN (tgt := 19) (by decide) dX16_key_7 (by decide) rfl ?_
    refine ks_iload_n dX16_key_10 rfl rfl ?_
    refine ks_iconst (x := nI 2) dX16_key_11 (by decide) rfl ?_
    refine ks_icmp_gtN (tgt := 19) (by decide) (by decide) dX16_key_12 (by decide) rfl (fun hc12 => ?_) (fun hc12 => ?_)
    · exact absurd hc12 (by decide)
    · refine ks_iconst (x := nI 1) dX16_key_15 (by decide) rfl ?_
      refine ks_goto (tgt := 20) dX16_key_16 (by decide) ?_
      refine ks_iconst (x := nI 1) dX16_key_20 (by decide) rfl ?_
      refine ks_callV (n := 2) (M' := mX16_good) (c_md_good1 hO) hO cl_X16 rfl kx_2734 kx_2736 kxp_127 kx_30 kx_2737 (by decide +kernel) rfl (by decide) (Nat.le_of_ble_eq_true rfl) rfl dX16_key_21 rfl (fun z21 S21 y21 => ?_)
      obtain ⟨rfl, V21, J21, v21⟩ := y21
      refine ks_if_eqN (tgt := 72) (by decide) dX16_key_24 (by decide) rfl (fun hc24 => ?_) (fun hc24 => ?_)
      · exact absurd hc24 (by decide)
      · refine ks_aload_n dX16_key_27 rfl rfl ?_
        refine ks_aload_n dX16_key_28 rfl rfl ?_
        refine ks_getf (T := TX16) (kf := 110) kx_2478 rfl in_X16 cl_X16 (by decide) J21.2.1 rfl dX16_key_29 rfl ?_
        refine ks_tv ((J21.2.2 110 (by decide)).trans vT) ?_
        refine ks_iload_n dX16_key_32 rfl rfl ?_
        refine ks_if_neN (tgt := 41) (by decide) dX16_key_33 (by decide) rfl (fun hc33 => ?_) (fun hc33 => ?_)
        · refine ks_iload_n dX16_key_41 rfl rfl ?_
          refine ks_iconst (x := nI 1) dX16_key_42 (by decide) rfl ?_
          refine ks_icmp_neN (tgt := 51) (by decide) (by decide) dX16_key_43 (by decide) rfl (fun hc43 => ?_) (fun hc43 => ?_)
          · exact absurd hc43 (by decide)
          · refine ks_bipush (x := nI 65) dX16_key_46 (by decide) rfl ?_
            refine ks_goto (tgt := 53) dX16_key_48 (by decide) ?_
            refine ks_addN dX16_key_53 rfl ?_
            refine ks_sipush (x := nI 1600) dX16_key_54 (by decide) rfl ?_
            refine ks_icmp_gtN (tgt := 64) (by omega) (by decide) dX16_key_57 (by decide) rfl (fun hc57 => ?_) (fun hc57 => ?_)
            · refine ks_iconst (x := nI 0) dX16_key_64 (by decide) rfl ?_
              refine ks_iconst (x := nI 2) dX16_key_65 (by decide) rfl ?_
              refine ks_callV (n := 2) (M' := mX16_good) (c_md_good0 J21.2.1) J21.2.1 cl_X16 rfl kx_2734 kx_2736 kxp_127 kx_30 kx_2737 (by decide +kernel) rfl (by decide) (Nat.le_of_ble_eq_true rfl) rfl dX16_key_66 rfl (fun z66 S66 y66 => ?_)
              obtain ⟨rfl, V66, J66, v66⟩ := y66
              have K66 := J21.trans J66
              refine ks_if_neN (tgt := 74) (by decide) dX16_key_69 (by decide) rfl (fun hc69 => ?_) (fun hc69 => ?_)
              · exact absurd hc69 (by decide)
              · refine ks_iconst (x := nI 0) dX16_key_72 (by decide) rfl ?_
                refine ks_iret rfl dX16_key_73 ?_
                exact ⟨rfl, _, K66, v66⟩
            · refine ks_iconst (x := nI 1) dX16_key_60 (by decide) rfl ?_
              refine ks_goto (tgt := 65) dX16_key_61 (by decide) ?_
              refine ks_iconst (x := nI 2) dX16_key_65 (by decide) rfl ?_
              omega
        · exact absurd hc33 (by decide)
set_option maxRecDepth 100000 in
set_option maxHeartbeats 800000 in
theorem r_keyF2 {l : Launch} {G : ks_G} {d : Nat} {S : ks_S} {V : Nat → Value} (hO : S.2.2 290 = some (rfE V)) {T : List Nat} (hB : buX S V 531 1600 110 T) {x : Int32} (hx : ¬ x < nI 1) (hf : 1600 < T.length + 20) : ks_P l G yX16_key mX16_key (d + 1) [.ref 290, .int x, .int (nI 2)] S (fun z S' => z = some (.int (nI 0)) ∧ ∃ V', pbK [] [111] S S' V V' ∧ V' 111 = .int (nI 2)) := by
  obtain ⟨vT, g, eT, kg, hT, em⟩ := id hB
  refine ks_of (by decide) rfl rfl (Nat.le_of_ble_eq_true rfl) ?_
  show ks_X l G mX16_key (d + 1) 0 [(0, .ref 290), (1, .int x), (2, .int (nI 2))] [] S _
  refine ks_aload_n dX16_key_0 rfl rfl ?_
  refine ks_iload_n dX16_key_1 rfl rfl ?_
  refine ks_iconst (x := nI 1) dX16_key_2 (by decide) rfl ?_
  refine ks_icmp_lt (tgt := 19) dX16_key_3 (by decide) rfl (fun hc3 => ?_) (fun hc3 => ?_)
  · exact absurd hc3 hx
  · refine ks_iload_n dX16_key_6 rfl rfl ?_
    refine ks_if_ltN (tgt := 19) (by decide) dX16_key_7 (by decide) rfl ?_
    refine ks_iload_n dX16_key_10 rfl rfl ?_
    refine ks_iconst (x := nI 2) dX16_key_11 (by decide) rfl ?_
    refine ks_icmp_gtN (tgt := 19) (by decide) (by decide) dX16_key_12 (by decide) rfl (fun hc12 => ?_) (fun hc12 => ?_)
    · exact absurd hc12 (by decide)
    · refine ks_iconst (x := nI 1) dX16_key_15 (by decide) rfl ?_
      refine ks_goto (tgt := 20) dX16_key_16 (by decide) ?_
      refine ks_iconst (x := nI 1) dX16_key_20 (by decide) rfl ?_
      refine ks_callV (n := 2) (M' := mX16_good) (c_md_good1 hO) hO cl_X16 rfl kx_2734 kx_2736 kxp_127 kx_30 kx_2737 (by decide +kernel) rfl (by decide) (Nat.le_of_ble_eq_true rfl) rfl dX16_key_21 rfl (fun z21 S21 y21 => ?_)
      obtain ⟨rfl, V21, J21, v21⟩ := y21
      refine ks_if_eqN (tgt := 72) (by decide) dX16_key_24 (by decide) rfl (fun hc24 => ?_) (fun hc24 => ?_)
      · exact absurd hc24 (by decide)
      · refine ks_aload_n dX16_key_27 rfl rfl ?_
        refine ks_aload_n dX16_key_28 rfl rfl ?_
        refine ks_getf (T := TX16) (kf := 110) kx_2478 rfl in_X16 cl_X16 (by decide) J21.2.1 rfl dX16_key_29 rfl ?_
        refine ks_tv ((J21.2.2 110 (by decide)).trans vT) ?_
        refine ks_iload_n dX16_key_32 rfl rfl ?_
        refine ks_if_neN (tgt := 41) (by decide) dX16_key_33 (by decide) rfl (fun hc33 => ?_) (fun hc33 => ?_)
        · refine ks_iload_n dX16_key_41 rfl rfl ?_
          refine ks_iconst (x := nI 1) dX16_key_42 (by decide) rfl ?_
          refine ks_icmp_neN (tgt := 51) (by decide) (by decide) dX16_key_43 (by decide) rfl (fun hc43 => ?_) (fun hc43 => ?_)
          · refine ks_bipush (x := nI 20) dX16_key_51 (by decide) rfl ?_
            refine ks_addN dX16_key_53 rfl ?_
            refine ks_sipush (x := nI 1600) dX16_key_54 (by decide) rfl ?_
            refine ks_icmp_gtN (tgt := 64) (by omega) (by decide) dX16_key_57 (by decide) rfl (fun hc57 => ?_) (fun hc57 => ?_)
            · refine ks_iconst (x := nI 0) dX16_key_64 (by decide) rfl ?_
              refine ks_iconst (x := nI 2) dX16_key_65 (by decide) rfl ?_
              refine ks_callV (n := 2) (M' := mX16_good) (c_md_good0 J21.2.1) J21.2.1 cl_X16 rfl kx_2734 kx_2736 kxp_127 kx_30 kx_2737 (by decide +kernel) rfl (by decide) (Nat.le_of_ble_eq_true rfl) rfl dX16_key_66 rfl (fun z66 S66 y66 => ?_)
              obtain ⟨rfl, V66, J66, v66⟩ := y66
              have K66 := J21.trans J66
              refine ks_if_neN (tgt := 74) (by decide) dX16_key_69 (by decide) rfl (fun hc69 => ?_) (fun hc69 => ?_)
              · exact absurd hc69 (by decide)
              · refine ks_iconst (x := nI 0) dX16_key_72 (by decide) rfl ?_
                refine ks_iret rfl dX16_key_73 ?_
                exact ⟨rfl, _, K66, v66⟩
            · refine ks_iconst (x := nI 1) dX16_key_60 (by decide) rfl ?_
              refine ks_goto (tgt := 65) dX16_key_61 (by decide) ?_
              refine ks_iconst (x := nI 2) dX16_key_65 (by decide) rfl ?_
              omega
          · exact absurd hc43 (by decide)
        · exact absurd hc33 (by decide)
set_option maxRecDepth 100000 in
set_option maxHeartbeats 800000 in
theorem l_kyCp0 {l : Launch} {G : ks_G} {d : Nat} {S : ks_S} {V : Nat → Value} {P : Option Value → ks_S → Prop} {gd gs : Nat → Nat} {L : Nat} (hO : S.2.2 290 = some (rfE V)) (hs9 : S.2.2 533 = some (kB 65 gs)) (kgs : kO gs) (hd9 : S.2.2 531 = some (kB 1600 gd)) (kgd : kO gd) (hL : L + 33 ≤ 1600) (vT : V 110 = .int (nI L)) (hk : ∀ S1 : ks_S, ks_up S S1 [531] → S1.2.2 531 = some (kB 1600 (ks_pt (fun j => gs (j)) gd L 33)) → kO (ks_pt (fun j => gs (j)) gd L 33) → ks_X l G mX16_key d 172 [(0, .ref 290), (2, .int (nI 0))] [] S1 P) : ∀ (u i : Nat) (S1 : ks_S), i + u = 33 → ks_up S S1 [531] → S1.2.2 531 = some (kB 1600 (ks_pt (fun j => gs (j)) gd L i)) → ks_X l G mX16_key d 134 [(0, .ref 290), (2, .int (nI 0)), (3, .int (nI i))] [] S1 P := by
  have kD : kO (fun j => gs (j)) := fun j => kgs _
  intro u
  induction u with
  | zero =>
    intro i S1 hi hu e1
    have o1 := hu.at hO (by simp only [List.mem_cons, List.not_mem_nil, or_false]; exact (by decide))
    have s1 := hu.at hs9 (by simp only [List.mem_cons, List.not_mem_nil, or_false]; exact (by decide))
    obtain rfl : i = 33 := hi
    refine ks_iload_n dX16_key_134 rfl rfl ?_
    refine ks_iload_n dX16_key_135 rfl rfl ?_
    refine ks_if_neN (tgt := 144) (by decide) dX16_key_136 (by decide) rfl (fun h => absurd rfl h) (fun _ => ?_)
    refine ks_bipush (x := nI 33) dX16_key_139 (by decide) rfl ?_
    refine ks_goto (tgt := 146) dX16_key_141 (by decide) ?_
    refine ks_icmp_geN (tgt := 172) (by decide) (by decide) dX16_key_146 (by decide) rfl (fun h1 => ?_) (fun h1 => absurd h1 (by omega))
    refine ks_sub [(0, _), (2, _)] rfl ?_
    exact hk S1 hu e1 (kO_pt kD kgd _ _)
  | succ u ih =>
    intro i S1 hi hu e1
    have o1 := hu.at hO (by simp only [List.mem_cons, List.not_mem_nil, or_false]; exact (by decide))
    have s1 := hu.at hs9 (by simp only [List.mem_cons, List.not_mem_nil, or_false]; exact (by decide))
    refine ks_iload_n dX16_key_134 rfl rfl ?_
    refine ks_iload_n dX16_key_135 rfl rfl ?_
    refine ks_if_neN (tgt := 144) (by decide) dX16_key_136 (by decide) rfl (fun h => absurd rfl h) (fun _ => ?_)
    refine ks_bipush (x := nI 33) dX16_key_139 (by decide) rfl ?_
    refine ks_goto (tgt := 146) dX16_key_141 (by decide) ?_
    refine ks_icmp_geN (tgt := 172) (by omega) (by decide) dX16_key_146 (by decide) rfl (fun h1 => absurd h1 (by omega)) (fun h1 => ?_)
    refine ks_aload_n dX16_key_149 rfl rfl ?_
    refine ks_getf (T := TX16) (kf := 109) kx_2477 rfl in_X16 cl_X16 (by decide) o1 rfl dX16_key_150 rfl ?_
    refine ks_aload_n dX16_key_153 rfl rfl ?_
    refine ks_getf (T := TX16) (kf := 110) kx_2478 rfl in_X16 cl_X16 (by decide) o1 rfl dX16_key_154 rfl ?_
    refine ks_tv vT ?_
    refine ks_iload_n dX16_key_157 rfl rfl ?_
    refine ks_addN dX16_key_158 rfl ?_
    refine ks_aload_n dX16_key_159 rfl rfl ?_
    refine ks_getf (T := TX16) (kf := 113) kx_2481 rfl in_X16 cl_X16 (by decide) o1 rfl dX16_key_160 rfl ?_
    refine ks_iload_n dX16_key_163 rfl rfl ?_
    refine ks_baldB (i := i) s1 rfl (by omega) (by decide) dX16_key_164 rfl ?_
    refine ks_bastB (i := L + i) (c := gs i) e1 rfl (by omega) (by decide) (ks_by_b (kgs _)) dX16_key_165 rfl ?_
    refine ks_incN (c := 1) (e := i + 1) dX16_key_166 rfl (by decide) rfl (by decide) rfl ?_
    refine ks_sub [(3, _), (0, _), (2, _)] rfl ?_
    refine ks_goto (tgt := 134) dX16_key_169 (by decide) ?_
    refine ks_sub [(0, _), (2, _), (3, _)] rfl (ih (i + 1) _ (by omega) (hu.trans (ks_up_set _ _ (List.mem_singleton.mpr rfl))) ?_)
    rw [ks_set_same, ← ks_pt_s]
set_option maxRecDepth 100000 in
set_option maxHeartbeats 800000 in
theorem l_kyCp1 {l : Launch} {G : ks_G} {d : Nat} {S : ks_S} {V : Nat → Value} {P : Option Value → ks_S → Prop} {gd gs : Nat → Nat} {L : Nat} (hO : S.2.2 290 = some (rfE V)) (hs9 : S.2.2 533 = some (kB 65 gs)) (kgs : kO gs) (hd9 : S.2.2 531 = some (kB 1600 gd)) (kgd : kO gd) (hL : L + 65 ≤ 1600) (vT : V 110 = .int (nI L)) (hk : ∀ S1 : ks_S, ks_up S S1 [531] → S1.2.2 531 = some (kB 1600 (ks_pt (fun j => gs (j)) gd L 65)) → kO (ks_pt (fun j => gs (j)) gd L 65) → ks_X l G mX16_key d 172 [(0, .ref 290), (2, .int (nI 1))] [] S1 P) : ∀ (u i : Nat) (S1 : ks_S), i + u = 65 → ks_up S S1 [531] → S1.2.2 531 = some (kB 1600 (ks_pt (fun j => gs (j)) gd L i)) → ks_X l G mX16_key d 134 [(0, .ref 290), (2, .int (nI 1)), (3, .int (nI i))] [] S1 P := by
  have kD : kO (fun j => gs (j)) := fun j => kgs _
  intro u
  induction u with
  | zero =>
    intro i S1 hi hu e1
    have o1 := hu.at hO (by simp only [List.mem_cons, List.not_mem_nil, or_false]; exact (by decide))
    have s1 := hu.at hs9 (by simp only [List.mem_cons, List.not_mem_nil, or_false]; exact (by decide))
    obtain rfl : i = 65 := hi
    refine ks_iload_n dX16_key_134 rfl rfl ?_
    refine ks_iload_n dX16_key_135 rfl rfl ?_
    refine ks_if_neN (tgt := 144) (by decide) dX16_key_136 (by decide) rfl (fun _ => ?_) (fun h => absurd h (by decide))
    refine ks_bipush (x := nI 65) dX16_key_144 (by decide) rfl ?_
    refine ks_icmp_geN (tgt := 172) (by decide) (by decide) dX16_key_146 (by decide) rfl (fun h1 => ?_) (fun h1 => absurd h1 (by omega))
    refine ks_sub [(0, _), (2, _)] rfl ?_
    exact hk S1 hu e1 (kO_pt kD kgd _ _)
  | succ u ih =>
    intro i S1 hi hu e1
    have o1 := hu.at hO (by simp only [List.mem_cons, List.not_mem_nil, or_false]; exact (by decide))
    have s1 := hu.at hs9 (by simp only [List.mem_cons, List.not_mem_nil, or_false]; exact (by decide))
    refine ks_iload_n dX16_key_134 rfl rfl ?_
    refine ks_iload_n dX16_key_135 rfl rfl ?_
    refine ks_if_neN (tgt := 144) (by decide) dX16_key_136 (by decide) rfl (fun _ => ?_) (fun h => absurd h (by decide))
    refine ks_bipush (x := nI 65) dX16_key_144 (by decide) rfl ?_
    refine ks_icmp_geN (tgt := 172) (by omega) (by decide) dX16_key_146 (by decide) rfl (fun h1 => absurd h1 (by omega)) (fun h1 => ?_)
    refine ks_aload_n dX16_key_149 rfl rfl ?_
    refine ks_getf (T := TX16) (kf := 109) kx_2477 rfl in_X16 cl_X16 (by decide) o1 rfl dX16_key_150 rfl ?_
    refine ks_aload_n dX16_key_153 rfl rfl ?_
    refine ks_getf (T := TX16) (kf := 110) kx_2478 rfl in_X16 cl_X16 (by decide) o1 rfl dX16_key_154 rfl ?_
    refine ks_tv vT ?_
    refine ks_iload_n dX16_key_157 rfl rfl ?_
    refine ks_addN dX16_key_158 rfl ?_
    refine ks_aload_n dX16_key_159 rfl rfl ?_
    refine ks_getf (T := TX16) (kf := 113) kx_2481 rfl in_X16 cl_X16 (by decide) o1 rfl dX16_key_160 rfl ?_
    refine ks_iload_n dX16_key_163 rfl rfl ?_
    refine ks_baldB (i := i) s1 rfl (by omega) (by decide) dX16_key_164 rfl ?_
    refine ks_bastB (i := L + i) (c := gs i) e1 rfl (by omega) (by decide) (ks_by_b (kgs _)) dX16_key_165 rfl ?_
    refine ks_incN (c := 1) (e := i + 1) dX16_key_166 rfl (by decide) rfl (by decide) rfl ?_
    refine ks_sub [(3, _), (0, _), (2, _)] rfl ?_
    refine ks_goto (tgt := 134) dX16_key_169 (by decide) ?_
    refine ks_sub [(0, _), (2, _), (3, _)] rfl (ih (i + 1) _ (by omega) (hu.trans (ks_up_set _ _ (List.mem_singleton.mpr rfl))) ?_)
    rw [ks_set_same, ← ks_pt_s]
theorem keyL_0 (wh : Bool) (x y : Nat) : mg (keyL wh x y) 0 = if wh = true then 4 else 2 + y % 2 := rfl
theorem keyL_x {wh : Bool} {x y q : Nat} (h : q < 32) : mg (keyL wh x y) (1 + q) = beB x q := by
  unfold keyL
  rw [mg_app _ _ _ (p := 1 + q) (j := q) rfl (by rw [bytL_len]; exact h), bytL_at _ _ _ h, Nat.zero_add]
theorem keyL_y {x y q : Nat} (h : q < 32) : mg (keyL true x y) (33 + q) = beB y q := by
  have e : keyL true x y = ([4] ++ bytL (beB x) 0 32) ++ bytL (beB y) 0 32 ++ [] := by rw [List.append_nil]; rfl
  rw [e, mg_app _ _ _ (p := 33 + q) (j := q) (by rw [List.length_append, bytL_len]; show 33 + q = 1 + 32 + q; omega) (by rw [bytL_len]; exact h), bytL_at _ _ _ h, Nat.zero_add]
abbrev LKk : List Nat := [291, 292, 293, 299, 303, 304, 305, 531]
theorem bu_end {g D : Nat → Nat} {T : List Nat} {n : Nat} (em : T = bytL g 0 T.length) : T ++ bytL D 0 n = bytL (ks_pt D g T.length n) 0 (T.length + n) := by
  rw [bytL_pt2, ← em]
set_option maxRecDepth 100000 in
set_option maxHeartbeats 1600000 in
theorem c_mr_key0 {l : Launch} {G : ks_G} {d : Nat} {S : ks_S} {V : Nat → Value} (hO : S.2.2 290 = some (rfE V)) {T : List Nat} (hB : buX S V 531 1600 110 T) {c : Nat} {Gp : Pt} {gk g5 : Nat → Nat} (hc1 : 1 ≤ c) (hc : c < 2 ^ 31) (hcc : ccS S Gp) (hM : mhR S) (hR : mrR S) (h305 : S.2.2 305 = some (kB 32 g5)) (k5 : kO g5) (h533 : S.2.2 533 = some (kB 65 gk)) (kgk : kO gk) (hf : T.length + 33 ≤ 1600) : ks_P l G yX16_key mX16_key (d + 6) [.ref 290, .int (nI c), .int (nI 0)] S (fun z S' => z = some (.int (nI (T.length + 33))) ∧ ∃ V', pbK (LKk ++ LKo) [110, 111] S S' V V' ∧ V' 111 = .int (nI 0) ∧ ccS S' Gp ∧ mhR S' ∧ mrR S' ∧ (∃ g, kO g ∧ S'.2.2 305 = some (kB 32 g)) ∧ (∃ g, kO g ∧ S'.2.2 533 = some (kB 65 g)) ∧ buX S' V' 531 1600 110 (T ++ (keyL false (pkX (rkG Gp c)) (pkY (rkG Gp c))))) := by
  obtain ⟨vT, g, eT, kg, hT, em⟩ := id hB
  refine ks_of (by decide) rfl rfl (Nat.le_of_ble_eq_true rfl) ?_
  show ks_X l G mX16_key (d + 6) 0 [(0, .ref 290), (1, .int (nI c)), (2, .int (nI 0))] [] S _
  refine ks_aload_n dX16_key_0 rfl rfl ?_
  refine ks_iload_n dX16_key_1 rfl rfl ?_
  refine ks_iconst (x := nI 1) dX16_key_2 (by decide) rfl ?_
  refine ks_icmp_ltN (tgt := 19) (by omega) (by decide) dX16_key_3 (by decide) rfl (fun hc3 => ?_) (fun hc3 => ?_)
  · refine ks_iconst (x := nI 0) dX16_key_19 (by decide) rfl ?_
    refine ks_iconst (x := nI 1) dX16_key_20 (by decide) rfl ?_
    omega
  · refine ks_iload_n dX16_key_6 rfl rfl ?_
    refine ks_if_ltN (tgt := 19) (by decide) dX16_key_7 (by decide) rfl ?_
    refine ks_iload_n dX16_key_10 rfl rfl ?_
    refine ks_iconst (x := nI 2) dX16_key_11 (by decide) rfl ?_
    refine ks_icmp_gtN (tgt := 19) (by decide) (by decide) dX16_key_12 (by decide) rfl (fun hc12 => ?_) (fun hc12 => ?_)
    · exact absurd hc12 (by decide)
    · refine ks_iconst (x := nI 1) dX16_key_15 (by decide) rfl ?_
      refine ks_goto (tgt := 20) dX16_key_16 (by decide) ?_
      refine ks_iconst (x := nI 1) dX16_key_20 (by decide) rfl ?_
      refine ks_callV (n := 2) (M' := mX16_good) (c_md_good1 hO) hO cl_X16 rfl kx_2734 kx_2736 kxp_127 kx_30 kx_2737 (by decide +kernel) rfl (by decide) (Nat.le_of_ble_eq_true rfl) rfl dX16_key_21 rfl (fun z21 S21 y21 => ?_)
      obtain ⟨rfl, V21, J21, v21⟩ := y21
      refine ks_if_eqN (tgt := 72) (by decide) dX16_key_24 (by decide) rfl (fun hc24 => ?_) (fun hc24 => ?_)
      · exact absurd hc24 (by decide)
      · refine ks_aload_n dX16_key_27 rfl rfl ?_
        refine ks_aload_n dX16_key_28 rfl rfl ?_
        refine ks_getf (T := TX16) (kf := 110) kx_2478 rfl in_X16 cl_X16 (by decide) J21.2.1 rfl dX16_key_29 rfl ?_
        refine ks_tv ((J21.2.2 110 (by decide)).trans vT) ?_
        refine ks_iload_n dX16_key_32 rfl rfl ?_
        refine ks_if_neN (tgt := 41) (by decide) dX16_key_33 (by decide) rfl (fun hc33 => ?_) (fun hc33 => ?_)
        · exact absurd hc33 (by decide)
        · refine ks_bipush (x := nI 33) dX16_key_36 (by decide) rfl ?_
          refine ks_goto (tgt := 53) dX16_key_38 (by decide) ?_
          refine ks_addN dX16_key_53 rfl ?_
          refine ks_sipush (x := nI 1600) dX16_key_54 (by decide) rfl ?_
          refine ks_icmp_gtN (tgt := 64) (by omega) (by decide) dX16_key_57 (by decide) rfl (fun hc57 => ?_) (fun hc57 => ?_)
          · refine ks_iconst (x := nI 0) dX16_key_64 (by decide) rfl ?_
            refine ks_iconst (x := nI 2) dX16_key_65 (by decide) rfl ?_
            omega
          · refine ks_iconst (x := nI 1) dX16_key_60 (by decide) rfl ?_
            refine ks_goto (tgt := 65) dX16_key_61 (by decide) ?_
            refine ks_iconst (x := nI 2) dX16_key_65 (by decide) rfl ?_
            refine ks_callV (n := 2) (M' := mX16_good) (c_md_good1 J21.2.1) J21.2.1 cl_X16 rfl kx_2734 kx_2736 kxp_127 kx_30 kx_2737 (by decide +kernel) rfl (by decide) (Nat.le_of_ble_eq_true rfl) rfl dX16_key_66 rfl (fun z66 S66 y66 => ?_)
            obtain ⟨rfl, V66, J66, v66⟩ := y66
            have K66 := J21.trans J66
            refine ks_if_neN (tgt := 74) (by decide) dX16_key_69 (by decide) rfl (fun hc69 => ?_) (fun hc69 => ?_)
            · refine ks_aload_n dX16_key_74 rfl rfl ?_
              refine ks_iload_n dX16_key_75 rfl rfl ?_
              refine ks_callV (n := 1) (M' := mX16_keyOf) (c_md_keyOf K66.2.1 (hcc.up K66.1 (fun x hx => by rw [List.mem_singleton] at hx; omega)) hc (K66.1.at h533 (by decide)) kgk) J66.2.1 cl_X16 rfl kx_2754 kx_2756 kxp_129 kx_30 kx_2757 (by decide +kernel) rfl (by decide) (Nat.le_of_ble_eq_true rfl) rfl dX16_key_76 rfl (fun z1 S1 y1 => ?_)
              obtain ⟨rfl, u1, cc1, w1, b1⟩ := y1
              obtain ⟨X, hX⟩ : ∃ X, X = pkX (rkG Gp c) := ⟨_, rfl⟩
              obtain ⟨Y, hY⟩ : ∃ Y, Y = pkY (rkG Gp c) := ⟨_, rfl⟩
              rw [← hX, ← hY] at b1
              rw [← hY] at w1
              rw [← hX, ← hY]
              clear hX hY
              obtain ⟨gy, y1, by1, ey1⟩ := w1
              have hy0 := by1 0 (by decide)
              have hyp : gy 0 % 2 = Y % 2 := by rw [← ey1, dg_par]
              have o1 := u1.at K66.2.1 (by decide)
              have v1 : V66 110 = .int (nI T.length) := (K66.2.2 110 (by decide)).trans vT
              have k1 : kO (ks_pt (beB Y) (ks_pt (beB X) gk 1 32) 33 32) := kO_pt (kO_beB _) (kO_pt (kO_beB _) kgk _ _) _ _
              obtain ⟨b9, eb9⟩ : ∃ z, z = ks_pt (beB Y) (ks_pt (beB X) gk 1 32) 33 32 := ⟨_, rfl⟩
              rw [← eb9] at b1 k1
              refine ks_aload_n dX16_key_79 rfl rfl ?_
              refine ks_getf (T := TX16) (kf := 113) kx_2481 rfl in_X16 cl_X16 (by decide) o1 rfl dX16_key_80 rfl ?_
              refine ks_iconst (x := nI 0) dX16_key_83 (by decide) rfl ?_
              refine ks_iload_n dX16_key_84 rfl rfl ?_
              refine ks_iconst (x := nI 1) dX16_key_85 (by decide) rfl ?_
              refine ks_icmp_neN (tgt := 93) (by decide) (by decide) dX16_key_86 (by decide) rfl (fun hc86 => ?_) (fun hc86 => ?_)
              · refine ks_iconst (x := nI 2) dX16_key_93 (by decide) rfl ?_
                refine ks_aload_n dX16_key_94 rfl rfl ?_
                refine ks_getf (T := TX16) (kf := 29) kx_2397 rfl in_X16 cl_X16 (by decide) o1 rfl dX16_key_95 rfl ?_
                refine ks_iconst (x := nI 0) dX16_key_98 (by decide) rfl ?_
                refine ks_ialdN (i := 0) y1 rfl (by decide) (by decide) dX16_key_99 rfl ?_
                refine ks_iconst (x := nI 1) dX16_key_100 (by decide) rfl ?_
                refine ks_andN (k := 1) (by omega) (by decide) dX16_key_101 rfl ?_
                refine ks_addN dX16_key_102 rfl ?_
                refine ks_i2b dX16_key_103 rfl ?_
                refine ks_bastB (i := 0) (c := (2 + ((gy 0) % 2 ^ 1)) % 256) b1 rfl (by decide) (by decide) ((ks_by_i8 _).trans (ks_by_nI _)) dX16_key_104 rfl ?_
                refine ks_iload_n dX16_key_105 rfl rfl ?_
                refine ks_iconst (x := nI 2) dX16_key_106 (by decide) rfl ?_
                refine ks_icmp_neN (tgt := 132) (by decide) (by decide) dX16_key_107 (by decide) rfl (fun hc107 => ?_) (fun hc107 => ?_)
                · refine ks_iconst (x := nI 0) dX16_key_132 (by decide) rfl ?_
                  refine ks_istore_n dX16_key_133 (by decide) rfl ?_
                  refine ks_sub [(3, _), (0, _), (1, _), (2, _)] rfl ?_
                  refine ks_nm (fun S2 e2 => ?_)
                  obtain ⟨b2, eb2⟩ : ∃ z, z = va_up b9 0 ((2 + gy 0 % 2 ^ 1) % 256) := ⟨_, rfl⟩
                  have u2 : ks_up S1 S2 [533] := by rw [e2]; exact ks_up_set _ _ (List.mem_singleton.mpr rfl)
                  have x2 : S2.2.2 533 = some (kB 65 b2) := by rw [e2, eb2]; exact ks_set_same _ _ _
                  clear e2
                  have k2 : kO b2 := by rw [eb2]; exact kO_up k1 (Nat.mod_lt _ (by decide))
                  have o2 := u2.at o1 (by decide)
                  have tp2 := u2.at (u1.at (K66.1.at eT (by decide)) (by decide)) (by decide)
                  have hb2 : ∀ j, j < 33 → b2 j = mg (keyL false X Y) j := fun j hj => by
                    rw [eb2]
                    by_cases h : j = 0
                    · rw [h, va_up_self]
                      rw [show (2 : Nat) ^ 1 = 2 from rfl, hyp, Nat.mod_eq_of_lt (by omega)]
                      rfl
                    · rw [va_up_ne _ _ h, eb9]
                      by_cases h2 : j < 33
                      · refine Eq.trans (if_neg (by omega)) (Eq.trans (if_pos (by omega)) ?_)
                        obtain ⟨q, rfl⟩ : ∃ q, j = 1 + q := ⟨j - 1, by omega⟩
                        rw [Nat.add_sub_cancel_left]
                        exact (keyL_x (by omega)).symm
                      · omega
                  refine ks_sub [(0, _), (2, _), (3, _)] rfl (l_kyCp0 (gd := g) o2 x2 k2 tp2 kg (by omega) v1 (fun S3 u3 e3 k3 => ?_) 33 0 S2 (by decide) (ks_up.rf _ _) (by rw [ks_pt_0]; exact tp2))
                  have o3 := u3.at o2 (by decide)
                  have ua : ks_up S S3 (290 :: (LKk ++ LKo)) := (K66.1.mono (by decide)).trans ((u1.mono (by decide)).trans ((u2.mono (by decide)).trans (u3.mono (by decide))))
                  have f5 := u3.at (u2.at (u1.at (K66.1.at h305 (by decide)) (by decide)) (by decide)) (by decide)
                  have m3 : mhR S3 := (((hM.up K66.1 (by decide)).up u1 (by decide)).up u2 (by decide)).up u3 (by decide)
                  have r3 : mrR S3 := (((hR.up K66.1 (by decide)).up u1 (by decide)).up u2 (by decide)).up u3 (by decide)
                  have cc3 : ccS S3 Gp := (cc1.up u2 (by decide)).up u3 (by decide)
                  have b3 := u3.at x2 (by decide)
                  have eL : keyL false X Y = bytL b2 0 33 := by
                    refine Eq.trans (bytL_getD (keyL false X Y)).symm ?_
                    rw [keyL_len]
                    exact bytL_congr (fun j hj => by rw [Nat.zero_add]; exact (hb2 j hj).symm)
                  refine ks_aload_n dX16_key_172 rfl rfl ?_
                  refine ks_dup dX16_key_173 rfl rfl ?_
                  refine ks_getf (T := TX16) (kf := 110) kx_2478 rfl in_X16 cl_X16 (by decide) o3 rfl dX16_key_174 rfl ?_
                  refine ks_tv v1 ?_
                  refine ks_iload_n dX16_key_177 rfl rfl ?_
                  refine ks_if_neN (tgt := 186) (by decide) dX16_key_178 (by decide) rfl (fun hc178 => ?_) (fun hc178 => ?_)
                  · exact absurd hc178 (by decide)
                  · refine ks_bipush (x := nI 33) dX16_key_181 (by decide) rfl ?_
                    refine ks_goto (tgt := 198) dX16_key_183 (by decide) ?_
                    refine ks_addN dX16_key_198 rfl ?_
                    refine ks_putf (T := TX16) (kf := 110) kx_2478 rfl in_X16 tyX16_ok nmX16 cl_X16 (by decide) o3 (Nat.le_of_ble_eq_true rfl) rfl rfl rfl rfl dX16_key_199 rfl ?_
                    refine md_put mdp_110 ?_
                    refine ks_aload_n dX16_key_202 rfl rfl ?_
                    refine ks_getf (T := TX16) (kf := 110) kx_2478 rfl in_X16 cl_X16 (by decide) (ks_set_same _ _ _) rfl dX16_key_203 rfl ?_
                    refine ks_tv (va_up_self _ _ _) ?_
                    refine ks_iret rfl dX16_key_206 ?_
                    refine ⟨rfl, va_up V66 110 (.int (nI (T.length + 33))), ⟨ua.trans (ks_up_set _ _ (by decide)), ks_set_same _ _ _, fun z hz => ?_⟩, (va_up_ne _ _ (by decide)).trans v66, cc3.up (ks_up_set (L := [290]) _ _ (by decide)) (by decide), m3.up (ks_up_set (L := [290]) _ _ (by decide)) (by decide), r3.up (ks_up_set (L := [290]) _ _ (by decide)) (by decide), ?_, ?_, ?_⟩
                    · simp only [List.mem_cons, List.not_mem_nil, or_false, not_or] at hz
                      rw [va_up_ne _ _ hz.1]
                      exact K66.2.2 z (by rw [List.mem_singleton]; exact hz.2)
                    · obtain ⟨gz, kz, ez⟩ : ∃ g, kO g ∧ S3.2.2 305 = some (kB 32 g) := ⟨_, k5, f5⟩
                      exact ⟨gz, kz, (ks_set_ne _ _ (by decide)).trans ez⟩
                    · exact ⟨b2, k2, (ks_set_ne _ _ (by decide)).trans b3⟩
                    · have ll : (T ++ (keyL false X Y)).length = T.length + 33 := by rw [List.length_append]; rw [keyL_len]; rfl
                      refine ⟨by rw [va_up_self, ll], (ks_pt (fun j => b2 j) g T.length 33), (ks_set_ne _ _ (by decide)).trans e3, k3, by rw [ll]; omega, ?_⟩
                      rw [ll]
                      rw [eL]; exact bu_end em
                · exact absurd hc107 (by decide)
              · exact absurd hc86 (by decide)
            · exact absurd hc69 (by decide)
set_option maxRecDepth 100000 in
set_option maxHeartbeats 1600000 in
theorem c_mr_key1 {l : Launch} {G : ks_G} {d : Nat} {S : ks_S} {V : Nat → Value} (hO : S.2.2 290 = some (rfE V)) {T : List Nat} (hB : buX S V 531 1600 110 T) {c : Nat} {Gp : Pt} {gk g5 : Nat → Nat} (hc1 : 1 ≤ c) (hc : c < 2 ^ 31) (hcc : ccS S Gp) (hM : mhR S) (hR : mrR S) (h305 : S.2.2 305 = some (kB 32 g5)) (k5 : kO g5) (h533 : S.2.2 533 = some (kB 65 gk)) (kgk : kO gk) (hf : T.length + 65 ≤ 1600) : ks_P l G yX16_key mX16_key (d + 6) [.ref 290, .int (nI c), .int (nI 1)] S (fun z S' => z = some (.int (nI (T.length + 65))) ∧ ∃ V', pbK (LKk ++ LKo) [110, 111] S S' V V' ∧ V' 111 = .int (nI 0) ∧ ccS S' Gp ∧ mhR S' ∧ mrR S' ∧ (∃ g, kO g ∧ S'.2.2 305 = some (kB 32 g)) ∧ (∃ g, kO g ∧ S'.2.2 533 = some (kB 65 g)) ∧ buX S' V' 531 1600 110 (T ++ (keyL true (pkX (rkG Gp c)) (pkY (rkG Gp c))))) := by
  obtain ⟨vT, g, eT, kg, hT, em⟩ := id hB
  refine ks_of (by decide) rfl rfl (Nat.le_of_ble_eq_true rfl) ?_
  show ks_X l G mX16_key (d + 6) 0 [(0, .ref 290), (1, .int (nI c)), (2, .int (nI 1))] [] S _
  refine ks_aload_n dX16_key_0 rfl rfl ?_
  refine ks_iload_n dX16_key_1 rfl rfl ?_
  refine ks_iconst (x := nI 1) dX16_key_2 (by decide) rfl ?_
  refine ks_icmp_ltN (tgt := 19) (by omega) (by decide) dX16_key_3 (by decide) rfl (fun hc3 => ?_) (fun hc3 => ?_)
  · refine ks_iconst (x := nI 0) dX16_key_19 (by decide) rfl ?_
    refine ks_iconst (x := nI 1) dX16_key_20 (by decide) rfl ?_
    omega
  · refine ks_iload_n dX16_key_6 rfl rfl ?_
    refine ks_if_ltN (tgt := 19) (by decide) dX16_key_7 (by decide) rfl ?_
    refine ks_iload_n dX16_key_10 rfl rfl ?_
    refine ks_iconst (x := nI 2) dX16_key_11 (by decide) rfl ?_
    refine ks_icmp_gtN (tgt := 19) (by decide) (by decide) dX16_key_12 (by decide) rfl (fun hc12 => ?_) (fun hc12 => ?_)
    · exact absurd hc12 (by decide)
    · refine ks_iconst (x := nI 1) dX16_key_15 (by decide) rfl ?_
      refine ks_goto (tgt := 20) dX16_key_16 (by decide) ?_
      refine ks_iconst (x := nI 1) dX16_key_20 (by decide) rfl ?_
      refine ks_callV (n := 2) (M' := mX16_good) (c_md_good1 hO) hO cl_X16 rfl kx_2734 kx_2736 kxp_127 kx_30 kx_2737 (by decide +kernel) rfl (by decide) (Nat.le_of_ble_eq_true rfl) rfl dX16_key_21 rfl (fun z21 S21 y21 => ?_)
      obtain ⟨rfl, V21, J21, v21⟩ := y21
      refine ks_if_eqN (tgt := 72) (by decide) dX16_key_24 (by decide) rfl (fun hc24 => ?_) (fun hc24 => ?_)
      · exact absurd hc24 (by decide)
      · refine ks_aload_n dX16_key_27 rfl rfl ?_
        refine ks_aload_n dX16_key_28 rfl rfl ?_
        refine ks_getf (T := TX16) (kf := 110) kx_2478 rfl in_X16 cl_X16 (by decide) J21.2.1 rfl dX16_key_29 rfl ?_
        refine ks_tv ((J21.2.2 110 (by decide)).trans vT) ?_
        refine ks_iload_n dX16_key_32 rfl rfl ?_
        refine ks_if_neN (tgt := 41) (by decide) dX16_key_33 (by decide) rfl (fun hc33 => ?_) (fun hc33 => ?_)
        · refine ks_iload_n dX16_key_41 rfl rfl ?_
          refine ks_iconst (x := nI 1) dX16_key_42 (by decide) rfl ?_
          refine ks_icmp_neN (tgt := 51) (by decide) (by decide) dX16_key_43 (by decide) rfl (fun hc43 => ?_) (fun hc43 => ?_)
          · exact absurd hc43 (by decide)
          · refine ks_bipush (x := nI 65) dX16_key_46 (by decide) rfl ?_
            refine ks_goto (tgt := 53) dX16_key_48 (by decide) ?_
            refine ks_addN dX16_key_53 rfl ?_
            refine ks_sipush (x := nI 1600) dX16_key_54 (by decide) rfl ?_
            refine ks_icmp_gtN (tgt := 64) (by omega) (by decide) dX16_key_57 (by decide) rfl (fun hc57 => ?_) (fun hc57 => ?_)
            · refine ks_iconst (x := nI 0) dX16_key_64 (by decide) rfl ?_
              refine ks_iconst (x := nI 2) dX16_key_65 (by decide) rfl ?_
              omega
            · refine ks_iconst (x := nI 1) dX16_key_60 (by decide) rfl ?_
              refine ks_goto (tgt := 65) dX16_key_61 (by decide) ?_
              refine ks_iconst (x := nI 2) dX16_key_65 (by decide) rfl ?_
              refine ks_callV (n := 2) (M' := mX16_good) (c_md_good1 J21.2.1) J21.2.1 cl_X16 rfl kx_2734 kx_2736 kxp_127 kx_30 kx_2737 (by decide +kernel) rfl (by decide) (Nat.le_of_ble_eq_true rfl) rfl dX16_key_66 rfl (fun z66 S66 y66 => ?_)
              obtain ⟨rfl, V66, J66, v66⟩ := y66
              have K66 := J21.trans J66
              refine ks_if_neN (tgt := 74) (by decide) dX16_key_69 (by decide) rfl (fun hc69 => ?_) (fun hc69 => ?_)
              · refine ks_aload_n dX16_key_74 rfl rfl ?_
                refine ks_iload_n dX16_key_75 rfl rfl ?_
                refine ks_callV (n := 1) (M' := mX16_keyOf) (c_md_keyOf K66.2.1 (hcc.up K66.1 (fun x hx => by rw [List.mem_singleton] at hx; omega)) hc (K66.1.at h533 (by decide)) kgk) J66.2.1 cl_X16 rfl kx_2754 kx_2756 kxp_129 kx_30 kx_2757 (by decide +kernel) rfl (by decide) (Nat.le_of_ble_eq_true rfl) rfl dX16_key_76 rfl (fun z1 S1 y1 => ?_)
                obtain ⟨rfl, u1, cc1, w1, b1⟩ := y1
                obtain ⟨X, hX⟩ : ∃ X, X = pkX (rkG Gp c) := ⟨_, rfl⟩
                obtain ⟨Y, hY⟩ : ∃ Y, Y = pkY (rkG Gp c) := ⟨_, rfl⟩
                rw [← hX, ← hY] at b1
                rw [← hY] at w1
                rw [← hX, ← hY]
                clear hX hY
                obtain ⟨gy, y1, by1, ey1⟩ := w1
                have hy0 := by1 0 (by decide)
                have hyp : gy 0 % 2 = Y % 2 := by rw [← ey1, dg_par]
                have o1 := u1.at K66.2.1 (by decide)
                have v1 : V66 110 = .int (nI T.length) := (K66.2.2 110 (by decide)).trans vT
                have k1 : kO (ks_pt (beB Y) (ks_pt (beB X) gk 1 32) 33 32) := kO_pt (kO_beB _) (kO_pt (kO_beB _) kgk _ _) _ _
                obtain ⟨b9, eb9⟩ : ∃ z, z = ks_pt (beB Y) (ks_pt (beB X) gk 1 32) 33 32 := ⟨_, rfl⟩
                rw [← eb9] at b1 k1
                refine ks_aload_n dX16_key_79 rfl rfl ?_
                refine ks_getf (T := TX16) (kf := 113) kx_2481 rfl in_X16 cl_X16 (by decide) o1 rfl dX16_key_80 rfl ?_
                refine ks_iconst (x := nI 0) dX16_key_83 (by decide) rfl ?_
                refine ks_iload_n dX16_key_84 rfl rfl ?_
                refine ks_iconst (x := nI 1) dX16_key_85 (by decide) rfl ?_
                refine ks_icmp_neN (tgt := 93) (by decide) (by decide) dX16_key_86 (by decide) rfl (fun hc86 => ?_) (fun hc86 => ?_)
                · exact absurd hc86 (by decide)
                · refine ks_iconst (x := nI 4) dX16_key_89 (by decide) rfl ?_
                  refine ks_goto (tgt := 103) dX16_key_90 (by decide) ?_
                  refine ks_i2b dX16_key_103 rfl ?_
                  refine ks_bastB (i := 0) (c := 4) b1 rfl (by decide) (by decide) ((ks_by_i8 _).trans (ks_by_nI _)) dX16_key_104 rfl ?_
                  refine ks_iload_n dX16_key_105 rfl rfl ?_
                  refine ks_iconst (x := nI 2) dX16_key_106 (by decide) rfl ?_
                  refine ks_icmp_neN (tgt := 132) (by decide) (by decide) dX16_key_107 (by decide) rfl (fun hc107 => ?_) (fun hc107 => ?_)
                  · refine ks_iconst (x := nI 0) dX16_key_132 (by decide) rfl ?_
                    refine ks_istore_n dX16_key_133 (by decide) rfl ?_
                    refine ks_sub [(3, _), (0, _), (1, _), (2, _)] rfl ?_
                    refine ks_nm (fun S2 e2 => ?_)
                    obtain ⟨b2, eb2⟩ : ∃ z, z = va_up b9 0 (4) := ⟨_, rfl⟩
                    have u2 : ks_up S1 S2 [533] := by rw [e2]; exact ks_up_set _ _ (List.mem_singleton.mpr rfl)
                    have x2 : S2.2.2 533 = some (kB 65 b2) := by rw [e2, eb2]; exact ks_set_same _ _ _
                    clear e2
                    have k2 : kO b2 := by rw [eb2]; exact kO_up k1 (by decide)
                    have o2 := u2.at o1 (by decide)
                    have tp2 := u2.at (u1.at (K66.1.at eT (by decide)) (by decide)) (by decide)
                    have hb2 : ∀ j, j < 65 → b2 j = mg (keyL true X Y) j := fun j hj => by
                      rw [eb2]
                      by_cases h : j = 0
                      · rw [h, va_up_self]
                        rfl
                      · rw [va_up_ne _ _ h, eb9]
                        by_cases h2 : j < 33
                        · refine Eq.trans (if_neg (by omega)) (Eq.trans (if_pos (by omega)) ?_)
                          obtain ⟨q, rfl⟩ : ∃ q, j = 1 + q := ⟨j - 1, by omega⟩
                          rw [Nat.add_sub_cancel_left]
                          exact (keyL_x (by omega)).symm
                        · refine Eq.trans (if_pos (by omega)) ?_
                          obtain ⟨q, rfl⟩ : ∃ q, j = 33 + q := ⟨j - 33, by omega⟩
                          rw [Nat.add_sub_cancel_left]
                          exact (keyL_y (by omega)).symm
                    refine ks_sub [(0, _), (2, _), (3, _)] rfl (l_kyCp1 (gd := g) o2 x2 k2 tp2 kg (by omega) v1 (fun S3 u3 e3 k3 => ?_) 65 0 S2 (by decide) (ks_up.rf _ _) (by rw [ks_pt_0]; exact tp2))
                    have o3 := u3.at o2 (by decide)
                    have ua : ks_up S S3 (290 :: (LKk ++ LKo)) := (K66.1.mono (by decide)).trans ((u1.mono (by decide)).trans ((u2.mono (by decide)).trans (u3.mono (by decide))))
                    have f5 := u3.at (u2.at (u1.at (K66.1.at h305 (by decide)) (by decide)) (by decide)) (by decide)
                    have m3 : mhR S3 := (((hM.up K66.1 (by decide)).up u1 (by decide)).up u2 (by decide)).up u3 (by decide)
                    have r3 : mrR S3 := (((hR.up K66.1 (by decide)).up u1 (by decide)).up u2 (by decide)).up u3 (by decide)
                    have cc3 : ccS S3 Gp := (cc1.up u2 (by decide)).up u3 (by decide)
                    have b3 := u3.at x2 (by decide)
                    have eL : keyL true X Y = bytL b2 0 65 := by
                      refine Eq.trans (bytL_getD (keyL true X Y)).symm ?_
                      rw [keyL_len]
                      exact bytL_congr (fun j hj => by rw [Nat.zero_add]; exact (hb2 j hj).symm)
                    refine ks_aload_n dX16_key_172 rfl rfl ?_
                    refine ks_dup dX16_key_173 rfl rfl ?_
                    refine ks_getf (T := TX16) (kf := 110) kx_2478 rfl in_X16 cl_X16 (by decide) o3 rfl dX16_key_174 rfl ?_
                    refine ks_tv v1 ?_
                    refine ks_iload_n dX16_key_177 rfl rfl ?_
                    refine ks_if_neN (tgt := 186) (by decide) dX16_key_178 (by decide) rfl (fun hc178 => ?_) (fun hc178 => ?_)
                    · refine ks_iload_n dX16_key_186 rfl rfl ?_
                      refine ks_iconst (x := nI 1) dX16_key_187 (by decide) rfl ?_
                      refine ks_icmp_neN (tgt := 196) (by decide) (by decide) dX16_key_188 (by decide) rfl (fun hc188 => ?_) (fun hc188 => ?_)
                      · exact absurd hc188 (by decide)
                      · refine ks_bipush (x := nI 65) dX16_key_191 (by decide) rfl ?_
                        refine ks_goto (tgt := 198) dX16_key_193 (by decide) ?_
                        refine ks_addN dX16_key_198 rfl ?_
                        refine ks_putf (T := TX16) (kf := 110) kx_2478 rfl in_X16 tyX16_ok nmX16 cl_X16 (by decide) o3 (Nat.le_of_ble_eq_true rfl) rfl rfl rfl rfl dX16_key_199 rfl ?_
                        refine md_put mdp_110 ?_
                        refine ks_aload_n dX16_key_202 rfl rfl ?_
                        refine ks_getf (T := TX16) (kf := 110) kx_2478 rfl in_X16 cl_X16 (by decide) (ks_set_same _ _ _) rfl dX16_key_203 rfl ?_
                        refine ks_tv (va_up_self _ _ _) ?_
                        refine ks_iret rfl dX16_key_206 ?_
                        refine ⟨rfl, va_up V66 110 (.int (nI (T.length + 65))), ⟨ua.trans (ks_up_set _ _ (by decide)), ks_set_same _ _ _, fun z hz => ?_⟩, (va_up_ne _ _ (by decide)).trans v66, cc3.up (ks_up_set (L := [290]) _ _ (by decide)) (by decide), m3.up (ks_up_set (L := [290]) _ _ (by decide)) (by decide), r3.up (ks_up_set (L := [290]) _ _ (by decide)) (by decide), ?_, ?_, ?_⟩
                        · simp only [List.mem_cons, List.not_mem_nil, or_false, not_or] at hz
                          rw [va_up_ne _ _ hz.1]
                          exact K66.2.2 z (by rw [List.mem_singleton]; exact hz.2)
                        · obtain ⟨gz, kz, ez⟩ : ∃ g, kO g ∧ S3.2.2 305 = some (kB 32 g) := ⟨_, k5, f5⟩
                          exact ⟨gz, kz, (ks_set_ne _ _ (by decide)).trans ez⟩
                        · exact ⟨b2, k2, (ks_set_ne _ _ (by decide)).trans b3⟩
                        · have ll : (T ++ (keyL true X Y)).length = T.length + 65 := by rw [List.length_append]; rw [keyL_len]; rfl
                          refine ⟨by rw [va_up_self, ll], (ks_pt (fun j => b2 j) g T.length 65), (ks_set_ne _ _ (by decide)).trans e3, k3, by rw [ll]; omega, ?_⟩
                          rw [ll]
                          rw [eL]; exact bu_end em
                    · exact absurd hc178 (by decide)
                  · exact absurd hc107 (by decide)
              · exact absurd hc69 (by decide)
        · exact absurd hc33 (by decide)
set_option maxRecDepth 100000 in
set_option maxHeartbeats 1600000 in
theorem c_mr_key2 {l : Launch} {G : ks_G} {d : Nat} {S : ks_S} {V : Nat → Value} (hO : S.2.2 290 = some (rfE V)) {T : List Nat} (hB : buX S V 531 1600 110 T) {c : Nat} {Gp : Pt} {gk g5 : Nat → Nat} (hc1 : 1 ≤ c) (hc : c < 2 ^ 31) (hcc : ccS S Gp) (hM : mhR S) (hR : mrR S) (h305 : S.2.2 305 = some (kB 32 g5)) (k5 : kO g5) (h533 : S.2.2 533 = some (kB 65 gk)) (kgk : kO gk) (hf : T.length + 20 ≤ 1600) : ks_P l G yX16_key mX16_key (d + 6) [.ref 290, .int (nI c), .int (nI 2)] S (fun z S' => z = some (.int (nI (T.length + 20))) ∧ ∃ V', pbK (LKk ++ LKo) [110, 111] S S' V V' ∧ V' 111 = .int (nI 0) ∧ ccS S' Gp ∧ mhR S' ∧ mrR S' ∧ (∃ g, kO g ∧ S'.2.2 305 = some (kB 32 g)) ∧ (∃ g, kO g ∧ S'.2.2 533 = some (kB 65 g)) ∧ buX S' V' 531 1600 110 (T ++ (bytL (h160_ (mg (keyL false (pkX (rkG Gp c)) (pkY (rkG Gp c)))) 33) 0 20))) := by
  obtain ⟨vT, g, eT, kg, hT, em⟩ := id hB
  refine ks_of (by decide) rfl rfl (Nat.le_of_ble_eq_true rfl) ?_
  show ks_X l G mX16_key (d + 6) 0 [(0, .ref 290), (1, .int (nI c)), (2, .int (nI 2))] [] S _
  refine ks_aload_n dX16_key_0 rfl rfl ?_
  refine ks_iload_n dX16_key_1 rfl rfl ?_
  refine ks_iconst (x := nI 1) dX16_key_2 (by decide) rfl ?_
  refine ks_icmp_ltN (tgt := 19) (by omega) (by decide) dX16_key_3 (by decide) rfl (fun hc3 => ?_) (fun hc3 => ?_)
  · refine ks_iconst (x := nI 0) dX16_key_19 (by decide) rfl ?_
    refine ks_iconst (x := nI 1) dX16_key_20 (by decide) rfl ?_
    omega
  · refine ks_iload_n dX16_key_6 rfl rfl ?_
    refine ks_if_ltN (tgt := 19) (by decide) dX16_key_7 (by decide) rfl ?_
    refine ks_iload_n dX16_key_10 rfl rfl ?_
    refine ks_iconst (x := nI 2) dX16_key_11 (by decide) rfl ?_
    refine ks_icmp_gtN (tgt := 19) (by decide) (by decide) dX16_key_12 (by decide) rfl (fun hc12 => ?_) (fun hc12 => ?_)
    · exact absurd hc12 (by decide)
    · refine ks_iconst (x := nI 1) dX16_key_15 (by decide) rfl ?_
      refine ks_goto (tgt := 20) dX16_key_16 (by decide) ?_
      refine ks_iconst (x := nI 1) dX16_key_20 (by decide) rfl ?_
      refine ks_callV (n := 2) (M' := mX16_good) (c_md_good1 hO) hO cl_X16 rfl kx_2734 kx_2736 kxp_127 kx_30 kx_2737 (by decide +kernel) rfl (by decide) (Nat.le_of_ble_eq_true rfl) rfl dX16_key_21 rfl (fun z21 S21 y21 => ?_)
      obtain ⟨rfl, V21, J21, v21⟩ := y21
      refine ks_if_eqN (tgt := 72) (by decide) dX16_key_24 (by decide) rfl (fun hc24 => ?_) (fun hc24 => ?_)
      · exact absurd hc24 (by decide)
      · refine ks_aload_n dX16_key_27 rfl rfl ?_
        refine ks_aload_n dX16_key_28 rfl rfl ?_
        refine ks_getf (T := TX16) (kf := 110) kx_2478 rfl in_X16 cl_X16 (by decide) J21.2.1 rfl dX16_key_29 rfl ?_
        refine ks_tv ((J21.2.2 110 (by decide)).trans vT) ?_
        refine ks_iload_n dX16_key_32 rfl rfl ?_
        refine ks_if_neN (tgt := 41) (by decide) dX16_key_33 (by decide) rfl (fun hc33 => ?_) (fun hc33 => ?_)
        · refine ks_iload_n dX16_key_41 rfl rfl ?_
          refine ks_iconst (x := nI 1) dX16_key_42 (by decide) rfl ?_
          refine ks_icmp_neN (tgt := 51) (by decide) (by decide) dX16_key_43 (by decide) rfl (fun hc43 => ?_) (fun hc43 => ?_)
          · refine ks_bipush (x := nI 20) dX16_key_51 (by decide) rfl ?_
            refine ks_addN dX16_key_53 rfl ?_
            refine ks_sipush (x := nI 1600) dX16_key_54 (by decide) rfl ?_
            refine ks_icmp_gtN (tgt := 64) (by omega) (by decide) dX16_key_57 (by decide) rfl (fun hc57 => ?_) (fun hc57 => ?_)
            · refine ks_iconst (x := nI 0) dX16_key_64 (by decide) rfl ?_
              refine ks_iconst (x := nI 2) dX16_key_65 (by decide) rfl ?_
              omega
            · refine ks_iconst (x := nI 1) dX16_key_60 (by decide) rfl ?_
              refine ks_goto (tgt := 65) dX16_key_61 (by decide) ?_
              refine ks_iconst (x := nI 2) dX16_key_65 (by decide) rfl ?_
              refine ks_callV (n := 2) (M' := mX16_good) (c_md_good1 J21.2.1) J21.2.1 cl_X16 rfl kx_2734 kx_2736 kxp_127 kx_30 kx_2737 (by decide +kernel) rfl (by decide) (Nat.le_of_ble_eq_true rfl) rfl dX16_key_66 rfl (fun z66 S66 y66 => ?_)
              obtain ⟨rfl, V66, J66, v66⟩ := y66
              have K66 := J21.trans J66
              refine ks_if_neN (tgt := 74) (by decide) dX16_key_69 (by decide) rfl (fun hc69 => ?_) (fun hc69 => ?_)
              · refine ks_aload_n dX16_key_74 rfl rfl ?_
                refine ks_iload_n dX16_key_75 rfl rfl ?_
                refine ks_callV (n := 1) (M' := mX16_keyOf) (c_md_keyOf K66.2.1 (hcc.up K66.1 (fun x hx => by rw [List.mem_singleton] at hx; omega)) hc (K66.1.at h533 (by decide)) kgk) J66.2.1 cl_X16 rfl kx_2754 kx_2756 kxp_129 kx_30 kx_2757 (by decide +kernel) rfl (by decide) (Nat.le_of_ble_eq_true rfl) rfl dX16_key_76 rfl (fun z1 S1 y1 => ?_)
                obtain ⟨rfl, u1, cc1, w1, b1⟩ := y1
                obtain ⟨X, hX⟩ : ∃ X, X = pkX (rkG Gp c) := ⟨_, rfl⟩
                obtain ⟨Y, hY⟩ : ∃ Y, Y = pkY (rkG Gp c) := ⟨_, rfl⟩
                rw [← hX, ← hY] at b1
                rw [← hY] at w1
                rw [← hX, ← hY]
                clear hX hY
                obtain ⟨gy, y1, by1, ey1⟩ := w1
                have hy0 := by1 0 (by decide)
                have hyp : gy 0 % 2 = Y % 2 := by rw [← ey1, dg_par]
                have o1 := u1.at K66.2.1 (by decide)
                have v1 : V66 110 = .int (nI T.length) := (K66.2.2 110 (by decide)).trans vT
                have k1 : kO (ks_pt (beB Y) (ks_pt (beB X) gk 1 32) 33 32) := kO_pt (kO_beB _) (kO_pt (kO_beB _) kgk _ _) _ _
                obtain ⟨b9, eb9⟩ : ∃ z, z = ks_pt (beB Y) (ks_pt (beB X) gk 1 32) 33 32 := ⟨_, rfl⟩
                rw [← eb9] at b1 k1
                refine ks_aload_n dX16_key_79 rfl rfl ?_
                refine ks_getf (T := TX16) (kf := 113) kx_2481 rfl in_X16 cl_X16 (by decide) o1 rfl dX16_key_80 rfl ?_
                refine ks_iconst (x := nI 0) dX16_key_83 (by decide) rfl ?_
                refine ks_iload_n dX16_key_84 rfl rfl ?_
                refine ks_iconst (x := nI 1) dX16_key_85 (by decide) rfl ?_
                refine ks_icmp_neN (tgt := 93) (by decide) (by decide) dX16_key_86 (by decide) rfl (fun hc86 => ?_) (fun hc86 => ?_)
                · refine ks_iconst (x := nI 2) dX16_key_93 (by decide) rfl ?_
                  refine ks_aload_n dX16_key_94 rfl rfl ?_
                  refine ks_getf (T := TX16) (kf := 29) kx_2397 rfl in_X16 cl_X16 (by decide) o1 rfl dX16_key_95 rfl ?_
                  refine ks_iconst (x := nI 0) dX16_key_98 (by decide) rfl ?_
                  refine ks_ialdN (i := 0) y1 rfl (by decide) (by decide) dX16_key_99 rfl ?_
                  refine ks_iconst (x := nI 1) dX16_key_100 (by decide) rfl ?_
                  refine ks_andN (k := 1) (by omega) (by decide) dX16_key_101 rfl ?_
                  refine ks_addN dX16_key_102 rfl ?_
                  refine ks_i2b dX16_key_103 rfl ?_
                  refine ks_bastB (i := 0) (c := (2 + ((gy 0) % 2 ^ 1)) % 256) b1 rfl (by decide) (by decide) ((ks_by_i8 _).trans (ks_by_nI _)) dX16_key_104 rfl ?_
                  refine ks_iload_n dX16_key_105 rfl rfl ?_
                  refine ks_iconst (x := nI 2) dX16_key_106 (by decide) rfl ?_
                  refine ks_icmp_neN (tgt := 132) (by decide) (by decide) dX16_key_107 (by decide) rfl (fun hc107 => ?_) (fun hc107 => ?_)
                  · exact absurd hc107 (by decide)
                  · refine ks_nm (fun S2 e2 => ?_)
                    obtain ⟨b2, eb2⟩ : ∃ z, z = va_up b9 0 ((2 + gy 0 % 2 ^ 1) % 256) := ⟨_, rfl⟩
                    have u2 : ks_up S1 S2 [533] := by rw [e2]; exact ks_up_set _ _ (List.mem_singleton.mpr rfl)
                    have x2 : S2.2.2 533 = some (kB 65 b2) := by rw [e2, eb2]; exact ks_set_same _ _ _
                    clear e2
                    have k2 : kO b2 := by rw [eb2]; exact kO_up k1 (Nat.mod_lt _ (by decide))
                    have o2 := u2.at o1 (by decide)
                    have tp2 := u2.at (u1.at (K66.1.at eT (by decide)) (by decide)) (by decide)
                    have hb2 : ∀ j, j < 33 → b2 j = mg (keyL false X Y) j := fun j hj => by
                      rw [eb2]
                      by_cases h : j = 0
                      · rw [h, va_up_self]
                        rw [show (2 : Nat) ^ 1 = 2 from rfl, hyp, Nat.mod_eq_of_lt (by omega)]
                        rfl
                      · rw [va_up_ne _ _ h, eb9]
                        by_cases h2 : j < 33
                        · refine Eq.trans (if_neg (by omega)) (Eq.trans (if_pos (by omega)) ?_)
                          obtain ⟨q, rfl⟩ : ∃ q, j = 1 + q := ⟨j - 1, by omega⟩
                          rw [Nat.add_sub_cancel_left]
                          exact (keyL_x (by omega)).symm
                        · omega
                    refine ks_aload_n dX16_key_110 rfl rfl ?_
                    refine ks_aload_n dX16_key_111 rfl rfl ?_
                    refine ks_getf (T := TX16) (kf := 113) kx_2481 rfl in_X16 cl_X16 (by decide) o2 rfl dX16_key_112 rfl ?_
                    refine ks_iconst (x := nI 0) dX16_key_115 (by decide) rfl ?_
                    refine ks_bipush (x := nI 33) dX16_key_116 (by decide) rfl ?_
                    refine ks_aload_n dX16_key_118 rfl rfl ?_
                    refine ks_getf (T := TX16) (kf := 109) kx_2477 rfl in_X16 cl_X16 (by decide) o2 rfl dX16_key_119 rfl ?_
                    refine ks_aload_n dX16_key_122 rfl rfl ?_
                    refine ks_getf (T := TX16) (kf := 110) kx_2478 rfl in_X16 cl_X16 (by decide) o2 rfl dX16_key_123 rfl ?_
                    refine ks_tv v1 ?_
                    refine ks_callV (n := 5) (M' := mX16_hash160) (c_md_hash160 (d := d + 1) o2 ((hM.up K66.1 (by decide)).up u1 (by decide) |>.up u2 (by decide)) ((hR.up K66.1 (by decide)).up u1 (by decide) |>.up u2 (by decide)) (u2.at (u1.at (K66.1.at h305 (by decide)) (by decide)) (by decide)) k5 x2 k2 (i := 0) (n := 33) (by decide) (by decide) tp2 kg (oa := T.length) (by omega) (by decide) (by decide) (by decide)) o2 cl_X16 rfl kx_2229 kx_2231 kxp_101 kx_30 kx_2232 (by decide +kernel) rfl (by decide) (Nat.le_of_ble_eq_true rfl) rfl dX16_key_126 rfl (fun z3 S3 y3 => ?_)
                    obtain ⟨rfl, u3, m3, r3, ⟨g53, k53, f5⟩, e3⟩ := y3
                    have o3 := u3.at o2 (by decide)
                    have ua : ks_up S S3 (290 :: (LKk ++ LKo)) := (K66.1.mono (by decide)).trans ((u1.mono (by decide)).trans ((u2.mono (by decide)).trans (u3.mono (by decide))))
                    have cc3 : ccS S3 Gp := (cc1.up u2 (by decide)).up u3 (by decide)
                    have b3 := u3.at x2 (by decide)
                    have eh : h160_ (fun k => b2 (0 + k)) 33 = h160_ (mg (keyL false X Y)) 33 := h160_congr (fun k hk => by rw [Nat.zero_add]; exact hb2 k hk)
                    rw [eh] at e3
                    have k3 : kO (ks_pt (h160_ (mg (keyL false X Y)) 33) g T.length 20) := kO_pt (kO_h160 _ _) kg _ _
                    refine ks_goto (tgt := 172) dX16_key_129 (by decide) ?_
                    refine ks_aload_n dX16_key_172 rfl rfl ?_
                    refine ks_dup dX16_key_173 rfl rfl ?_
                    refine ks_getf (T := TX16) (kf := 110) kx_2478 rfl in_X16 cl_X16 (by decide) o3 rfl dX16_key_174 rfl ?_
                    refine ks_tv v1 ?_
                    refine ks_iload_n dX16_key_177 rfl rfl ?_
                    refine ks_if_neN (tgt := 186) (by decide) dX16_key_178 (by decide) rfl (fun hc178 => ?_) (fun hc178 => ?_)
                    · refine ks_iload_n dX16_key_186 rfl rfl ?_
                      refine ks_iconst (x := nI 1) dX16_key_187 (by decide) rfl ?_
                      refine ks_icmp_neN (tgt := 196) (by decide) (by decide) dX16_key_188 (by decide) rfl (fun hc188 => ?_) (fun hc188 => ?_)
                      · refine ks_bipush (x := nI 20) dX16_key_196 (by decide) rfl ?_
                        refine ks_addN dX16_key_198 rfl ?_
                        refine ks_putf (T := TX16) (kf := 110) kx_2478 rfl in_X16 tyX16_ok nmX16 cl_X16 (by decide) o3 (Nat.le_of_ble_eq_true rfl) rfl rfl rfl rfl dX16_key_199 rfl ?_
                        refine md_put mdp_110 ?_
                        refine ks_aload_n dX16_key_202 rfl rfl ?_
                        refine ks_getf (T := TX16) (kf := 110) kx_2478 rfl in_X16 cl_X16 (by decide) (ks_set_same _ _ _) rfl dX16_key_203 rfl ?_
                        refine ks_tv (va_up_self _ _ _) ?_
                        refine ks_iret rfl dX16_key_206 ?_
                        refine ⟨rfl, va_up V66 110 (.int (nI (T.length + 20))), ⟨ua.trans (ks_up_set _ _ (by decide)), ks_set_same _ _ _, fun z hz => ?_⟩, (va_up_ne _ _ (by decide)).trans v66, cc3.up (ks_up_set (L := [290]) _ _ (by decide)) (by decide), m3.up (ks_up_set (L := [290]) _ _ (by decide)) (by decide), r3.up (ks_up_set (L := [290]) _ _ (by decide)) (by decide), ?_, ?_, ?_⟩
                        · simp only [List.mem_cons, List.not_mem_nil, or_false, not_or] at hz
                          rw [va_up_ne _ _ hz.1]
                          exact K66.2.2 z (by rw [List.mem_singleton]; exact hz.2)
                        · obtain ⟨gz, kz, ez⟩ : ∃ g, kO g ∧ S3.2.2 305 = some (kB 32 g) := ⟨_, k53, f5⟩
                          exact ⟨gz, kz, (ks_set_ne _ _ (by decide)).trans ez⟩
                        · exact ⟨b2, k2, (ks_set_ne _ _ (by decide)).trans b3⟩
                        · have ll : (T ++ (bytL (h160_ (mg (keyL false X Y)) 33) 0 20)).length = T.length + 20 := by rw [List.length_append]; rw [bytL_len]
                          refine ⟨by rw [va_up_self, ll], (ks_pt (h160_ (mg (keyL false X Y)) 33) g T.length 20), (ks_set_ne _ _ (by decide)).trans e3, k3, by rw [ll]; omega, ?_⟩
                          rw [ll]
                          exact bu_end em
                      · exact absurd hc188 (by decide)
                    · exact absurd hc178 (by decide)
                · exact absurd hc86 (by decide)
              · exact absurd hc69 (by decide)
          · exact absurd hc43 (by decide)
        · exact absurd hc33 (by decide)
set_option maxRecDepth 100000 in
set_option maxHeartbeats 800000 in
theorem r_digest {l : Launch} {G : ks_G} {d : Nat} {S : ks_S} {V : Nat → Value} (hO : S.2.2 290 = some (rfE V)) {T : List Nat} (hB : buX S V 531 1600 110 T) {x : Int32} (hx : ¬ (¬ x < 0 ∧ x ≤ nI 3)) : ks_P l G yX16_digest mX16_digest (d + 1) [.ref 290, .int x] S (fun z S' => z = some (.int (nI 0)) ∧ ∃ V', pbK [] [111] S S' V V' ∧ V' 111 = .int (nI 1)) := by
  obtain ⟨vT, g, eT, kg, hT, em⟩ := id hB
  refine ks_of (by decide) rfl rfl (Nat.le_of_ble_eq_true rfl) ?_
  show ks_X l G mX16_digest (d + 1) 0 [(0, .ref 290), (1, .int x)] [] S _
  refine ks_aload_n dX16_digest_0 rfl rfl ?_
  refine ks_iload_n dX16_digest_1 rfl rfl ?_
  refine ks_if_lt (tgt := 14) dX16_digest_2 (by decide) rfl (fun hc2 => ?_) (fun hc2 => ?_)
  · refine ks_iconst (x := nI 0) dX16_digest_14 (by decide) rfl ?_
    refine ks_iconst (x := nI 1) dX16_digest_15 (by decide) rfl ?_
    refine ks_callV (n := 2) (M' := mX16_good) (c_md_good0 hO) hO cl_X16 rfl kx_2734 kx_2736 kxp_127 kx_30 kx_2737 (by decide +kernel) rfl (by decide) (Nat.le_of_ble_eq_true rfl) rfl dX16_digest_16 rfl (fun z16 S16 y16 => ?_)
    obtain ⟨rfl, V16, J16, v16⟩ := y16
    refine ks_if_neN (tgt := 24) (by decide) dX16_digest_19 (by decide) rfl (fun hc19 => ?_) (fun hc19 => ?_)
    · exact absurd hc19 (by decide)
    · refine ks_iconst (x := nI 0) dX16_digest_22 (by decide) rfl ?_
      refine ks_iret rfl dX16_digest_23 ?_
      exact ⟨rfl, _, J16, v16⟩
  · refine ks_iload_n dX16_digest_5 rfl rfl ?_
    refine ks_iconst (x := nI 3) dX16_digest_6 (by decide) rfl ?_
    refine ks_icmp_gt (tgt := 14) dX16_digest_7 (by decide) rfl (fun hc7 => ?_) (fun hc7 => ?_)
    · refine ks_iconst (x := nI 0) dX16_digest_14 (by decide) rfl ?_
      refine ks_iconst (x := nI 1) dX16_digest_15 (by decide) rfl ?_
      refine ks_callV (n := 2) (M' := mX16_good) (c_md_good0 hO) hO cl_X16 rfl kx_2734 kx_2736 kxp_127 kx_30 kx_2737 (by decide +kernel) rfl (by decide) (Nat.le_of_ble_eq_true rfl) rfl dX16_digest_16 rfl (fun z16 S16 y16 => ?_)
      obtain ⟨rfl, V16, J16, v16⟩ := y16
      refine ks_if_neN (tgt := 24) (by decide) dX16_digest_19 (by decide) rfl (fun hc19 => ?_) (fun hc19 => ?_)
      · exact absurd hc19 (by decide)
      · refine ks_iconst (x := nI 0) dX16_digest_22 (by decide) rfl ?_
        refine ks_iret rfl dX16_digest_23 ?_
        exact ⟨rfl, _, J16, v16⟩
    · refine ks_iconst (x := nI 1) dX16_digest_10 (by decide) rfl ?_
      refine ks_goto (tgt := 15) dX16_digest_11 (by decide) ?_
      refine ks_iconst (x := nI 1) dX16_digest_15 (by decide) rfl ?_
      exact absurd ⟨hc2, Int32.not_lt.mp hc7⟩ hx
set_option maxRecDepth 100000 in
set_option maxHeartbeats 800000 in
theorem c_mr_digest0 {l : Launch} {G : ks_G} {d : Nat} {S : ks_S} {V : Nat → Value} (hO : S.2.2 290 = some (rfE V)) {T : List Nat} (hB : buX S V 531 1600 110 T) {g5 : Nat → Nat} (hM : mhR S) (hR : mrR S) (h305 : S.2.2 305 = some (kB 32 g5)) (k5 : kO g5) : ks_P l G yX16_digest mX16_digest (d + 5) [.ref 290, .int (nI 0)] S (fun z S' => z = some (.int (nI 32)) ∧ ∃ V', pbK [291, 292, 293, 299, 303, 304, 305, 531] [110, 111] S S' V V' ∧ V' 111 = .int (nI 0) ∧ mhR S' ∧ mrR S' ∧ (∃ g, kO g ∧ S'.2.2 305 = some (kB 32 g)) ∧ buX S' V' 531 1600 110 (bytL (sha_ (mg T) T.length) 0 32)) := by
  obtain ⟨vT, g, eT, kg, hT, em⟩ := id hB
  refine ks_of (by decide) rfl rfl (Nat.le_of_ble_eq_true rfl) ?_
  show ks_X l G mX16_digest (d + 5) 0 [(0, .ref 290), (1, .int (nI 0))] [] S _
  refine ks_aload_n dX16_digest_0 rfl rfl ?_
  refine ks_iload_n dX16_digest_1 rfl rfl ?_
  refine ks_if_ltN (tgt := 14) (by decide) dX16_digest_2 (by decide) rfl ?_
  refine ks_iload_n dX16_digest_5 rfl rfl ?_
  refine ks_iconst (x := nI 3) dX16_digest_6 (by decide) rfl ?_
  refine ks_icmp_gtN (tgt := 14) (by decide) (by decide) dX16_digest_7 (by decide) rfl (fun hc7 => ?_) (fun hc7 => ?_)
  · exact absurd hc7 (by decide)
  · refine ks_iconst (x := nI 1) dX16_digest_10 (by decide) rfl ?_
    refine ks_goto (tgt := 15) dX16_digest_11 (by decide) ?_
    refine ks_iconst (x := nI 1) dX16_digest_15 (by decide) rfl ?_
    refine ks_callV (n := 2) (M' := mX16_good) (c_md_good1 hO) hO cl_X16 rfl kx_2734 kx_2736 kxp_127 kx_30 kx_2737 (by decide +kernel) rfl (by decide) (Nat.le_of_ble_eq_true rfl) rfl dX16_digest_16 rfl (fun z16 S16 y16 => ?_)
    obtain ⟨rfl, V16, J16, v16⟩ := y16
    refine ks_if_neN (tgt := 24) (by decide) dX16_digest_19 (by decide) rfl (fun hc19 => ?_) (fun hc19 => ?_)
    · refine ks_iload_n dX16_digest_24 rfl rfl ?_
      refine ks_if_neN (tgt := 49) (by decide) dX16_digest_25 (by decide) rfl (fun hc25 => ?_) (fun hc25 => ?_)
      · exact absurd hc25 (by decide)
      · refine ks_aload_n dX16_digest_28 rfl rfl ?_
        refine ks_aload_n dX16_digest_29 rfl rfl ?_
        refine ks_getf (T := TX16) (kf := 109) kx_2477 rfl in_X16 cl_X16 (by decide) J16.2.1 rfl dX16_digest_30 rfl ?_
        refine ks_iconst (x := nI 0) dX16_digest_33 (by decide) rfl ?_
        refine ks_aload_n dX16_digest_34 rfl rfl ?_
        refine ks_getf (T := TX16) (kf := 110) kx_2478 rfl in_X16 cl_X16 (by decide) J16.2.1 rfl dX16_digest_35 rfl ?_
        refine ks_tv ((J16.2.2 110 (by decide)).trans vT) ?_
        refine ks_aload_n dX16_digest_38 rfl rfl ?_
        refine ks_getf (T := TX16) (kf := 109) kx_2477 rfl in_X16 cl_X16 (by decide) J16.2.1 rfl dX16_digest_39 rfl ?_
        refine ks_iconst (x := nI 0) dX16_digest_42 (by decide) rfl ?_
        have K16 := J16
        have tp := K16.1.at eT (by decide)
        have v1 : V16 110 = .int (nI T.length) := (K16.2.2 110 (by decide)).trans vT
        refine ks_callV (n := 5) (M' := mX16_sha) (c_md_sha (d := d + 2) K16.2.1 (hM.up K16.1 (by decide)) tp kg (i := 0) (n := T.length) (by omega) (by decide) tp kg (oa := 0) (by decide) (by decide) (by decide) (by decide)) J16.2.1 cl_X16 rfl kx_1992 kx_1994 kxp_62 kx_30 kx_1995 (by decide +kernel) rfl (by decide) (Nat.le_of_ble_eq_true rfl) rfl dX16_digest_43 rfl (fun z1 S1 y1 => ?_)
        obtain ⟨rfl, u1, m1, e1⟩ := y1
        have r1 : mrR S1 := (hR.up K16.1 (by decide)).up u1 (by decide)
        have f1 : ∃ g, kO g ∧ S1.2.2 305 = some (kB 32 g) := ⟨_, k5, u1.at (K16.1.at h305 (by decide)) (by decide)⟩
        have o1 := u1.at K16.2.1 (by decide)
        refine ks_goto (tgt := 119) dX16_digest_46 (by decide) ?_
        refine ks_aload_n dX16_digest_119 rfl rfl ?_
        refine ks_iload_n dX16_digest_120 rfl rfl ?_
        refine ks_iconst (x := nI 1) dX16_digest_121 (by decide) rfl ?_
        refine ks_icmp_eqN (tgt := 130) (by decide) (by decide) dX16_digest_122 (by decide) rfl (fun hc122 => ?_) (fun hc122 => ?_)
        · exact absurd hc122 (by decide)
        · refine ks_iload_n dX16_digest_125 rfl rfl ?_
          refine ks_iconst (x := nI 2) dX16_digest_126 (by decide) rfl ?_
          refine ks_icmp_neN (tgt := 135) (by decide) (by decide) dX16_digest_127 (by decide) rfl (fun hc127 => ?_) (fun hc127 => ?_)
          · refine ks_bipush (x := nI 32) dX16_digest_135 (by decide) rfl ?_
            refine ks_putf (T := TX16) (kf := 110) kx_2478 rfl in_X16 tyX16_ok nmX16 cl_X16 (by decide) o1 (Nat.le_of_ble_eq_true rfl) rfl rfl rfl rfl dX16_digest_137 rfl ?_
            refine md_put mdp_110 ?_
            refine ks_aload_n dX16_digest_140 rfl rfl ?_
            refine ks_getf (T := TX16) (kf := 110) kx_2478 rfl in_X16 cl_X16 (by decide) (ks_set_same _ _ _) rfl dX16_digest_141 rfl ?_
            refine ks_tv (va_up_self _ _ _) ?_
            refine ks_iret rfl dX16_digest_144 ?_
            have eh : sha_ (fun k => g (0 + k)) T.length = sha_ (mg T) T.length := sha_congr (fun k hk => by rw [Nat.zero_add]; exact bytL_mg em hk)
            rw [eh] at e1
            refine ⟨rfl, va_up V16 110 (.int (nI 32)), ⟨((K16.1.mono (by decide)).trans (u1.mono (by decide))).trans (ks_up_set _ _ (by decide)), ks_set_same _ _ _, fun z hz => ?_⟩, (va_up_ne _ _ (by decide)).trans v16, m1.up (ks_up_set (L := [290]) _ _ (by decide)) (by decide), r1.up (ks_up_set (L := [290]) _ _ (by decide)) (by decide), ?_, ?_⟩
            · simp only [List.mem_cons, List.not_mem_nil, or_false, not_or] at hz
              rw [va_up_ne _ _ hz.1]
              exact K16.2.2 z (by rw [List.mem_singleton]; exact hz.2)
            · obtain ⟨gz, kz, ez⟩ := f1
              exact ⟨gz, kz, (ks_set_ne _ _ (by decide)).trans ez⟩
            · refine ⟨by rw [va_up_self, bytL_len], _, (ks_set_ne _ _ (by decide)).trans e1, kO_pt (kO_sha _ _) kg _ _, by rw [bytL_len]; decide, ?_⟩
              rw [bytL_len, bytL_pt]
          · exact absurd hc127 (by decide)
    · exact absurd hc19 (by decide)
set_option maxRecDepth 100000 in
set_option maxHeartbeats 800000 in
theorem c_mr_digest1 {l : Launch} {G : ks_G} {d : Nat} {S : ks_S} {V : Nat → Value} (hO : S.2.2 290 = some (rfE V)) {T : List Nat} (hB : buX S V 531 1600 110 T) {g5 : Nat → Nat} (hM : mhR S) (hR : mrR S) (h305 : S.2.2 305 = some (kB 32 g5)) (k5 : kO g5) : ks_P l G yX16_digest mX16_digest (d + 5) [.ref 290, .int (nI 1)] S (fun z S' => z = some (.int (nI 20)) ∧ ∃ V', pbK [291, 292, 293, 299, 303, 304, 305, 531] [110, 111] S S' V V' ∧ V' 111 = .int (nI 0) ∧ mhR S' ∧ mrR S' ∧ (∃ g, kO g ∧ S'.2.2 305 = some (kB 32 g)) ∧ buX S' V' 531 1600 110 (bytL (ripe_ (mg T) T.length) 0 20)) := by
  obtain ⟨vT, g, eT, kg, hT, em⟩ := id hB
  refine ks_of (by decide) rfl rfl (Nat.le_of_ble_eq_true rfl) ?_
  show ks_X l G mX16_digest (d + 5) 0 [(0, .ref 290), (1, .int (nI 1))] [] S _
  refine ks_aload_n dX16_digest_0 rfl rfl ?_
  refine ks_iload_n dX16_digest_1 rfl rfl ?_
  refine ks_if_ltN (tgt := 14) (by decide) dX16_digest_2 (by decide) rfl ?_
  refine ks_iload_n dX16_digest_5 rfl rfl ?_
  refine ks_iconst (x := nI 3) dX16_digest_6 (by decide) rfl ?_
  refine ks_icmp_gtN (tgt := 14) (by decide) (by decide) dX16_digest_7 (by decide) rfl (fun hc7 => ?_) (fun hc7 => ?_)
  · exact absurd hc7 (by decide)
  · refine ks_iconst (x := nI 1) dX16_digest_10 (by decide) rfl ?_
    refine ks_goto (tgt := 15) dX16_digest_11 (by decide) ?_
    refine ks_iconst (x := nI 1) dX16_digest_15 (by decide) rfl ?_
    refine ks_callV (n := 2) (M' := mX16_good) (c_md_good1 hO) hO cl_X16 rfl kx_2734 kx_2736 kxp_127 kx_30 kx_2737 (by decide +kernel) rfl (by decide) (Nat.le_of_ble_eq_true rfl) rfl dX16_digest_16 rfl (fun z16 S16 y16 => ?_)
    obtain ⟨rfl, V16, J16, v16⟩ := y16
    refine ks_if_neN (tgt := 24) (by decide) dX16_digest_19 (by decide) rfl (fun hc19 => ?_) (fun hc19 => ?_)
    · refine ks_iload_n dX16_digest_24 rfl rfl ?_
      refine ks_if_neN (tgt := 49) (by decide) dX16_digest_25 (by decide) rfl (fun hc25 => ?_) (fun hc25 => ?_)
      · refine ks_iload_n dX16_digest_49 rfl rfl ?_
        refine ks_iconst (x := nI 1) dX16_digest_50 (by decide) rfl ?_
        refine ks_icmp_neN (tgt := 75) (by decide) (by decide) dX16_digest_51 (by decide) rfl (fun hc51 => ?_) (fun hc51 => ?_)
        · exact absurd hc51 (by decide)
        · refine ks_aload_n dX16_digest_54 rfl rfl ?_
          refine ks_aload_n dX16_digest_55 rfl rfl ?_
          refine ks_getf (T := TX16) (kf := 109) kx_2477 rfl in_X16 cl_X16 (by decide) J16.2.1 rfl dX16_digest_56 rfl ?_
          refine ks_iconst (x := nI 0) dX16_digest_59 (by decide) rfl ?_
          refine ks_aload_n dX16_digest_60 rfl rfl ?_
          refine ks_getf (T := TX16) (kf := 110) kx_2478 rfl in_X16 cl_X16 (by decide) J16.2.1 rfl dX16_digest_61 rfl ?_
          refine ks_tv ((J16.2.2 110 (by decide)).trans vT) ?_
          refine ks_aload_n dX16_digest_64 rfl rfl ?_
          refine ks_getf (T := TX16) (kf := 109) kx_2477 rfl in_X16 cl_X16 (by decide) J16.2.1 rfl dX16_digest_65 rfl ?_
          refine ks_iconst (x := nI 0) dX16_digest_68 (by decide) rfl ?_
          have K16 := J16
          have tp := K16.1.at eT (by decide)
          have v1 : V16 110 = .int (nI T.length) := (K16.2.2 110 (by decide)).trans vT
          refine ks_callV (n := 5) (M' := mX16_ripe) (c_md_ripe (d := d + 1) K16.2.1 (hM.up K16.1 (by decide)) (hR.up K16.1 (by decide)) tp kg (i := 0) (n := T.length) (by omega) (by decide) tp kg (oa := 0) (by decide) (by decide) (by decide) (by decide)) J16.2.1 cl_X16 rfl kx_2212 kx_2214 kxp_98 kx_30 kx_2215 (by decide +kernel) rfl (by decide) (Nat.le_of_ble_eq_true rfl) rfl dX16_digest_69 rfl (fun z1 S1 y1 => ?_)
          obtain ⟨rfl, u1, m1, r1, e1⟩ := y1
          have f1 : ∃ g, kO g ∧ S1.2.2 305 = some (kB 32 g) := ⟨_, k5, u1.at (K16.1.at h305 (by decide)) (by decide)⟩
          have o1 := u1.at K16.2.1 (by decide)
          refine ks_goto (tgt := 119) dX16_digest_72 (by decide) ?_
          refine ks_aload_n dX16_digest_119 rfl rfl ?_
          refine ks_iload_n dX16_digest_120 rfl rfl ?_
          refine ks_iconst (x := nI 1) dX16_digest_121 (by decide) rfl ?_
          refine ks_icmp_eqN (tgt := 130) (by decide) (by decide) dX16_digest_122 (by decide) rfl (fun hc122 => ?_) (fun hc122 => ?_)
          · refine ks_bipush (x := nI 20) dX16_digest_130 (by decide) rfl ?_
            refine ks_goto (tgt := 137) dX16_digest_132 (by decide) ?_
            refine ks_putf (T := TX16) (kf := 110) kx_2478 rfl in_X16 tyX16_ok nmX16 cl_X16 (by decide) o1 (Nat.le_of_ble_eq_true rfl) rfl rfl rfl rfl dX16_digest_137 rfl ?_
            refine md_put mdp_110 ?_
            refine ks_aload_n dX16_digest_140 rfl rfl ?_
            refine ks_getf (T := TX16) (kf := 110) kx_2478 rfl in_X16 cl_X16 (by decide) (ks_set_same _ _ _) rfl dX16_digest_141 rfl ?_
            refine ks_tv (va_up_self _ _ _) ?_
            refine ks_iret rfl dX16_digest_144 ?_
            have eh : ripe_ (fun k => g (0 + k)) T.length = ripe_ (mg T) T.length := ripe_congr (fun k hk => by rw [Nat.zero_add]; exact bytL_mg em hk)
            rw [eh] at e1
            refine ⟨rfl, va_up V16 110 (.int (nI 20)), ⟨((K16.1.mono (by decide)).trans (u1.mono (by decide))).trans (ks_up_set _ _ (by decide)), ks_set_same _ _ _, fun z hz => ?_⟩, (va_up_ne _ _ (by decide)).trans v16, m1.up (ks_up_set (L := [290]) _ _ (by decide)) (by decide), r1.up (ks_up_set (L := [290]) _ _ (by decide)) (by decide), ?_, ?_⟩
            · simp only [List.mem_cons, List.not_mem_nil, or_false, not_or] at hz
              rw [va_up_ne _ _ hz.1]
              exact K16.2.2 z (by rw [List.mem_singleton]; exact hz.2)
            · obtain ⟨gz, kz, ez⟩ := f1
              exact ⟨gz, kz, (ks_set_ne _ _ (by decide)).trans ez⟩
            · refine ⟨by rw [va_up_self, bytL_len], _, (ks_set_ne _ _ (by decide)).trans e1, kO_pt (kO_ripe _ _) kg _ _, by rw [bytL_len]; decide, ?_⟩
              rw [bytL_len, bytL_pt]
          · exact absurd hc122 (by decide)
      · exact absurd hc25 (by decide)
    · exact absurd hc19 (by decide)
set_option maxRecDepth 100000 in
set_option maxHeartbeats 800000 in
theorem c_mr_digest2 {l : Launch} {G : ks_G} {d : Nat} {S : ks_S} {V : Nat → Value} (hO : S.2.2 290 = some (rfE V)) {T : List Nat} (hB : buX S V 531 1600 110 T) {g5 : Nat → Nat} (hM : mhR S) (hR : mrR S) (h305 : S.2.2 305 = some (kB 32 g5)) (k5 : kO g5) : ks_P l G yX16_digest mX16_digest (d + 5) [.ref 290, .int (nI 2)] S (fun z S' => z = some (.int (nI 20)) ∧ ∃ V', pbK [291, 292, 293, 299, 303, 304, 305, 531] [110, 111] S S' V V' ∧ V' 111 = .int (nI 0) ∧ mhR S' ∧ mrR S' ∧ (∃ g, kO g ∧ S'.2.2 305 = some (kB 32 g)) ∧ buX S' V' 531 1600 110 (bytL (h160_ (mg T) T.length) 0 20)) := by
  obtain ⟨vT, g, eT, kg, hT, em⟩ := id hB
  refine ks_of (by decide) rfl rfl (Nat.le_of_ble_eq_true rfl) ?_
  show ks_X l G mX16_digest (d + 5) 0 [(0, .ref 290), (1, .int (nI 2))] [] S _
  refine ks_aload_n dX16_digest_0 rfl rfl ?_
  refine ks_iload_n dX16_digest_1 rfl rfl ?_
  refine ks_if_ltN (tgt := 14) (by decide) dX16_digest_2 (by decide) rfl ?_
  refine ks_iload_n dX16_digest_5 rfl rfl ?_
  refine ks_iconst (x := nI 3) dX16_digest_6 (by decide) rfl ?_
  refine ks_icmp_gtN (tgt := 14) (by decide) (by decide) dX16_digest_7 (by decide) rfl (fun hc7 => ?_) (fun hc7 => ?_)
  · exact absurd hc7 (by decide)
  · refine ks_iconst (x := nI 1) dX16_digest_10 (by decide) rfl ?_
    refine ks_goto (tgt := 15) dX16_digest_11 (by decide) ?_
    refine ks_iconst (x := nI 1) dX16_digest_15 (by decide) rfl ?_
    refine ks_callV (n := 2) (M' := mX16_good) (c_md_good1 hO) hO cl_X16 rfl kx_2734 kx_2736 kxp_127 kx_30 kx_2737 (by decide +kernel) rfl (by decide) (Nat.le_of_ble_eq_true rfl) rfl dX16_digest_16 rfl (fun z16 S16 y16 => ?_)
    obtain ⟨rfl, V16, J16, v16⟩ := y16
    refine ks_if_neN (tgt := 24) (by decide) dX16_digest_19 (by decide) rfl (fun hc19 => ?_) (fun hc19 => ?_)
    · refine ks_iload_n dX16_digest_24 rfl rfl ?_
      refine ks_if_neN (tgt := 49) (by decide) dX16_digest_25 (by decide) rfl (fun hc25 => ?_) (fun hc25 => ?_)
      · refine ks_iload_n dX16_digest_49 rfl rfl ?_
        refine ks_iconst (x := nI 1) dX16_digest_50 (by decide) rfl ?_
        refine ks_icmp_neN (tgt := 75) (by decide) (by decide) dX16_digest_51 (by decide) rfl (fun hc51 => ?_) (fun hc51 => ?_)
        · refine ks_iload_n dX16_digest_75 rfl rfl ?_
          refine ks_iconst (x := nI 2) dX16_digest_76 (by decide) rfl ?_
          refine ks_icmp_neN (tgt := 101) (by decide) (by decide) dX16_digest_77 (by decide) rfl (fun hc77 => ?_) (fun hc77 => ?_)
          · exact absurd hc77 (by decide)
          · refine ks_aload_n dX16_digest_80 rfl rfl ?_
            refine ks_aload_n dX16_digest_81 rfl rfl ?_
            refine ks_getf (T := TX16) (kf := 109) kx_2477 rfl in_X16 cl_X16 (by decide) J16.2.1 rfl dX16_digest_82 rfl ?_
            refine ks_iconst (x := nI 0) dX16_digest_85 (by decide) rfl ?_
            refine ks_aload_n dX16_digest_86 rfl rfl ?_
            refine ks_getf (T := TX16) (kf := 110) kx_2478 rfl in_X16 cl_X16 (by decide) J16.2.1 rfl dX16_digest_87 rfl ?_
            refine ks_tv ((J16.2.2 110 (by decide)).trans vT) ?_
            refine ks_aload_n dX16_digest_90 rfl rfl ?_
            refine ks_getf (T := TX16) (kf := 109) kx_2477 rfl in_X16 cl_X16 (by decide) J16.2.1 rfl dX16_digest_91 rfl ?_
            refine ks_iconst (x := nI 0) dX16_digest_94 (by decide) rfl ?_
            have K16 := J16
            have tp := K16.1.at eT (by decide)
            have v1 : V16 110 = .int (nI T.length) := (K16.2.2 110 (by decide)).trans vT
            refine ks_callV (n := 5) (M' := mX16_hash160) (c_md_hash160 (d := d) K16.2.1 (hM.up K16.1 (by decide)) (hR.up K16.1 (by decide)) (K16.1.at h305 (by decide)) k5 tp kg (i := 0) (n := T.length) (by omega) (by decide) tp kg (oa := 0) (by decide) (by decide) (by decide) (by decide)) J16.2.1 cl_X16 rfl kx_2229 kx_2231 kxp_101 kx_30 kx_2232 (by decide +kernel) rfl (by decide) (Nat.le_of_ble_eq_true rfl) rfl dX16_digest_95 rfl (fun z1 S1 y1 => ?_)
            obtain ⟨rfl, u1, m1, r1, f1, e1⟩ := y1
            have o1 := u1.at K16.2.1 (by decide)
            refine ks_goto (tgt := 119) dX16_digest_98 (by decide) ?_
            refine ks_aload_n dX16_digest_119 rfl rfl ?_
            refine ks_iload_n dX16_digest_120 rfl rfl ?_
            refine ks_iconst (x := nI 1) dX16_digest_121 (by decide) rfl ?_
            refine ks_icmp_eqN (tgt := 130) (by decide) (by decide) dX16_digest_122 (by decide) rfl (fun hc122 => ?_) (fun hc122 => ?_)
            · exact absurd hc122 (by decide)
            · refine ks_iload_n dX16_digest_125 rfl rfl ?_
              refine ks_iconst (x := nI 2) dX16_digest_126 (by decide) rfl ?_
              refine ks_icmp_neN (tgt := 135) (by decide) (by decide) dX16_digest_127 (by decide) rfl (fun hc127 => ?_) (fun hc127 => ?_)
              · exact absurd hc127 (by decide)
              · refine ks_bipush (x := nI 20) dX16_digest_130 (by decide) rfl ?_
                refine ks_goto (tgt := 137) dX16_digest_132 (by decide) ?_
                refine ks_putf (T := TX16) (kf := 110) kx_2478 rfl in_X16 tyX16_ok nmX16 cl_X16 (by decide) o1 (Nat.le_of_ble_eq_true rfl) rfl rfl rfl rfl dX16_digest_137 rfl ?_
                refine md_put mdp_110 ?_
                refine ks_aload_n dX16_digest_140 rfl rfl ?_
                refine ks_getf (T := TX16) (kf := 110) kx_2478 rfl in_X16 cl_X16 (by decide) (ks_set_same _ _ _) rfl dX16_digest_141 rfl ?_
                refine ks_tv (va_up_self _ _ _) ?_
                refine ks_iret rfl dX16_digest_144 ?_
                have eh : h160_ (fun k => g (0 + k)) T.length = h160_ (mg T) T.length := h160_congr (fun k hk => by rw [Nat.zero_add]; exact bytL_mg em hk)
                rw [eh] at e1
                refine ⟨rfl, va_up V16 110 (.int (nI 20)), ⟨((K16.1.mono (by decide)).trans (u1.mono (by decide))).trans (ks_up_set _ _ (by decide)), ks_set_same _ _ _, fun z hz => ?_⟩, (va_up_ne _ _ (by decide)).trans v16, m1.up (ks_up_set (L := [290]) _ _ (by decide)) (by decide), r1.up (ks_up_set (L := [290]) _ _ (by decide)) (by decide), ?_, ?_⟩
                · simp only [List.mem_cons, List.not_mem_nil, or_false, not_or] at hz
                  rw [va_up_ne _ _ hz.1]
                  exact K16.2.2 z (by rw [List.mem_singleton]; exact hz.2)
                · obtain ⟨gz, kz, ez⟩ := f1
                  exact ⟨gz, kz, (ks_set_ne _ _ (by decide)).trans ez⟩
                · refine ⟨by rw [va_up_self, bytL_len], _, (ks_set_ne _ _ (by decide)).trans e1, kO_pt (kO_h160 _ _) kg _ _, by rw [bytL_len]; decide, ?_⟩
                  rw [bytL_len, bytL_pt]
        · exact absurd hc51 (by decide)
      · exact absurd hc25 (by decide)
    · exact absurd hc19 (by decide)
set_option maxRecDepth 100000 in
set_option maxHeartbeats 800000 in
theorem c_mr_digest3 {l : Launch} {G : ks_G} {d : Nat} {S : ks_S} {V : Nat → Value} (hO : S.2.2 290 = some (rfE V)) {T : List Nat} (hB : buX S V 531 1600 110 T) {g5 : Nat → Nat} (hM : mhR S) (hR : mrR S) (h305 : S.2.2 305 = some (kB 32 g5)) (k5 : kO g5) : ks_P l G yX16_digest mX16_digest (d + 5) [.ref 290, .int (nI 3)] S (fun z S' => z = some (.int (nI 32)) ∧ ∃ V', pbK [291, 292, 293, 299, 303, 304, 305, 531] [110, 111] S S' V V' ∧ V' 111 = .int (nI 0) ∧ mhR S' ∧ mrR S' ∧ (∃ g, kO g ∧ S'.2.2 305 = some (kB 32 g)) ∧ buX S' V' 531 1600 110 (bytL (twice_ (mg T) T.length) 0 32)) := by
  obtain ⟨vT, g, eT, kg, hT, em⟩ := id hB
  refine ks_of (by decide) rfl rfl (Nat.le_of_ble_eq_true rfl) ?_
  show ks_X l G mX16_digest (d + 5) 0 [(0, .ref 290), (1, .int (nI 3))] [] S _
  refine ks_aload_n dX16_digest_0 rfl rfl ?_
  refine ks_iload_n dX16_digest_1 rfl rfl ?_
  refine ks_if_ltN (tgt := 14) (by decide) dX16_digest_2 (by decide) rfl ?_
  refine ks_iload_n dX16_digest_5 rfl rfl ?_
  refine ks_iconst (x := nI 3) dX16_digest_6 (by decide) rfl ?_
  refine ks_icmp_gtN (tgt := 14) (by decide) (by decide) dX16_digest_7 (by decide) rfl (fun hc7 => ?_) (fun hc7 => ?_)
  · exact absurd hc7 (by decide)
  · refine ks_iconst (x := nI 1) dX16_digest_10 (by decide) rfl ?_
    refine ks_goto (tgt := 15) dX16_digest_11 (by decide) ?_
    refine ks_iconst (x := nI 1) dX16_digest_15 (by decide) rfl ?_
    refine ks_callV (n := 2) (M' := mX16_good) (c_md_good1 hO) hO cl_X16 rfl kx_2734 kx_2736 kxp_127 kx_30 kx_2737 (by decide +kernel) rfl (by decide) (Nat.le_of_ble_eq_true rfl) rfl dX16_digest_16 rfl (fun z16 S16 y16 => ?_)
    obtain ⟨rfl, V16, J16, v16⟩ := y16
    refine ks_if_neN (tgt := 24) (by decide) dX16_digest_19 (by decide) rfl (fun hc19 => ?_) (fun hc19 => ?_)
    · refine ks_iload_n dX16_digest_24 rfl rfl ?_
      refine ks_if_neN (tgt := 49) (by decide) dX16_digest_25 (by decide) rfl (fun hc25 => ?_) (fun hc25 => ?_)
      · refine ks_iload_n dX16_digest_49 rfl rfl ?_
        refine ks_iconst (x := nI 1) dX16_digest_50 (by decide) rfl ?_
        refine ks_icmp_neN (tgt := 75) (by decide) (by decide) dX16_digest_51 (by decide) rfl (fun hc51 => ?_) (fun hc51 => ?_)
        · refine ks_iload_n dX16_digest_75 rfl rfl ?_
          refine ks_iconst (x := nI 2) dX16_digest_76 (by decide) rfl ?_
          refine ks_icmp_neN (tgt := 101) (by decide) (by decide) dX16_digest_77 (by decide) rfl (fun hc77 => ?_) (fun hc77 => ?_)
          · refine ks_aload_n dX16_digest_101 rfl rfl ?_
            refine ks_aload_n dX16_digest_102 rfl rfl ?_
            refine ks_getf (T := TX16) (kf := 109) kx_2477 rfl in_X16 cl_X16 (by decide) J16.2.1 rfl dX16_digest_103 rfl ?_
            refine ks_iconst (x := nI 0) dX16_digest_106 (by decide) rfl ?_
            refine ks_aload_n dX16_digest_107 rfl rfl ?_
            refine ks_getf (T := TX16) (kf := 110) kx_2478 rfl in_X16 cl_X16 (by decide) J16.2.1 rfl dX16_digest_108 rfl ?_
            refine ks_tv ((J16.2.2 110 (by decide)).trans vT) ?_
            refine ks_aload_n dX16_digest_111 rfl rfl ?_
            refine ks_getf (T := TX16) (kf := 109) kx_2477 rfl in_X16 cl_X16 (by decide) J16.2.1 rfl dX16_digest_112 rfl ?_
            refine ks_iconst (x := nI 0) dX16_digest_115 (by decide) rfl ?_
            have K16 := J16
            have tp := K16.1.at eT (by decide)
            have v1 : V16 110 = .int (nI T.length) := (K16.2.2 110 (by decide)).trans vT
            refine ks_callV (n := 5) (M' := mX16_again) (c_md_again (d := d + 1) K16.2.1 (hM.up K16.1 (by decide)) (K16.1.at h305 (by decide)) k5 tp kg (i := 0) (n := T.length) (by omega) (by decide) tp kg (oa := 0) (by decide) (by decide) (by decide) (by decide)) J16.2.1 cl_X16 rfl kx_1988 kx_1990 kxp_61 kx_30 kx_1991 (by decide +kernel) rfl (by decide) (Nat.le_of_ble_eq_true rfl) rfl dX16_digest_116 rfl (fun z1 S1 y1 => ?_)
            obtain ⟨rfl, u1, m1, f1, e1⟩ := y1
            have r1 : mrR S1 := (hR.up K16.1 (by decide)).up u1 (by decide)
            have o1 := u1.at K16.2.1 (by decide)
            refine ks_aload_n dX16_digest_119 rfl rfl ?_
            refine ks_iload_n dX16_digest_120 rfl rfl ?_
            refine ks_iconst (x := nI 1) dX16_digest_121 (by decide) rfl ?_
            refine ks_icmp_eqN (tgt := 130) (by decide) (by decide) dX16_digest_122 (by decide) rfl (fun hc122 => ?_) (fun hc122 => ?_)
            · exact absurd hc122 (by decide)
            · refine ks_iload_n dX16_digest_125 rfl rfl ?_
              refine ks_iconst (x := nI 2) dX16_digest_126 (by decide) rfl ?_
              refine ks_icmp_neN (tgt := 135) (by decide) (by decide) dX16_digest_127 (by decide) rfl (fun hc127 => ?_) (fun hc127 => ?_)
              · refine ks_bipush (x := nI 32) dX16_digest_135 (by decide) rfl ?_
                refine ks_putf (T := TX16) (kf := 110) kx_2478 rfl in_X16 tyX16_ok nmX16 cl_X16 (by decide) o1 (Nat.le_of_ble_eq_true rfl) rfl rfl rfl rfl dX16_digest_137 rfl ?_
                refine md_put mdp_110 ?_
                refine ks_aload_n dX16_digest_140 rfl rfl ?_
                refine ks_getf (T := TX16) (kf := 110) kx_2478 rfl in_X16 cl_X16 (by decide) (ks_set_same _ _ _) rfl dX16_digest_141 rfl ?_
                refine ks_tv (va_up_self _ _ _) ?_
                refine ks_iret rfl dX16_digest_144 ?_
                have eh : twice_ (fun k => g (0 + k)) T.length = twice_ (mg T) T.length := twice_congr (fun k hk => by rw [Nat.zero_add]; exact bytL_mg em hk)
                rw [eh] at e1
                refine ⟨rfl, va_up V16 110 (.int (nI 32)), ⟨((K16.1.mono (by decide)).trans (u1.mono (by decide))).trans (ks_up_set _ _ (by decide)), ks_set_same _ _ _, fun z hz => ?_⟩, (va_up_ne _ _ (by decide)).trans v16, m1.up (ks_up_set (L := [290]) _ _ (by decide)) (by decide), r1.up (ks_up_set (L := [290]) _ _ (by decide)) (by decide), ?_, ?_⟩
                · simp only [List.mem_cons, List.not_mem_nil, or_false, not_or] at hz
                  rw [va_up_ne _ _ hz.1]
                  exact K16.2.2 z (by rw [List.mem_singleton]; exact hz.2)
                · obtain ⟨gz, kz, ez⟩ := f1
                  exact ⟨gz, kz, (ks_set_ne _ _ (by decide)).trans ez⟩
                · refine ⟨by rw [va_up_self, bytL_len], _, (ks_set_ne _ _ (by decide)).trans e1, kO_pt (kO_twice _ _) kg _ _, by rw [bytL_len]; decide, ?_⟩
                  rw [bytL_len, bytL_pt]
              · exact absurd hc127 (by decide)
          · exact absurd hc77 (by decide)
        · exact absurd hc51 (by decide)
      · exact absurd hc25 (by decide)
    · exact absurd hc19 (by decide)
