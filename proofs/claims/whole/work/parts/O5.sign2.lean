/-! THE REFERENCE: sign, its numbers -/
abbrev LSe : List Nat := [560, 561, 562, 332, 334, 335]
abbrev LSc : List Nat := [560, 561, 562, 332, 334, 335, 552, 553, 554, 316, 317, 318, 323, 324, 325, 326, 327, 328, 329, 330]
abbrev LSb : List Nat := [560, 561, 562, 332, 334, 335, 552, 553, 554, 316, 317, 318, 323, 324, 325, 326, 327, 328, 329, 330, 291, 292, 293, 299, 305, 333, 544]
/-- the second number of a signature, as the reference reckons it -/
def rsS (K x kn z : Nat) : Nat := (z + kn * x) * K ^ (nN - 2) % nN
theorem mont_add {x y m : Nat} : (x * 2 ^ 256 % m + y * 2 ^ 256 % m) % m = (x + y) * 2 ^ 256 % m := by
  rw [← Nat.add_mod, Nat.add_mul]
set_option maxRecDepth 100000 in
set_option maxHeartbeats 3200000 in
theorem l_sgE {l : Launch} {G : ks_G} {d : Nat} {S : ks_S} {V : Nat → Value} {R : Nat → Nat} {j kn ty r9 x K : Nat} {gh : Nat → Nat} (hO : S.2.2 290 = some (rfE V)) (hC : cvR S R) (hF : rgF S 555 nN muN) (hE : exW S) (hkn : kn < 2 ^ 31) (w329 : wA S 329 x) (w333 : wA S 333 K) (h336 : S.2.2 336 = some (kB 32 gh)) (kgh : kO gh) {P9 : Option Value → ks_S → Prop} (hk : ∀ S1 : ks_S, ks_up S S1 LSe → cvR S1 R → rgF S1 555 nN muN → exW S1 → wA S1 329 x → wA S1 332 (rsS K x kn (beN gh 0)) → ks_X l G mX16_sign (d + 6) 678 [(0, .ref 290), (1, .int (nI j)), (2, .int (nI kn)), (3, .int (nI ty)), (4, .int (nI r9))] [] S1 P9) : ks_X l G mX16_sign (d + 6) 482 [(0, .ref 290), (1, .int (nI j)), (2, .int (nI kn)), (3, .int (nI ty)), (4, .int (nI r9))] [] S P9 := by
  obtain ⟨si, esi⟩ : ∃ v, v = K ^ (nN - 2) := ⟨_, rfl⟩
  have ers : rsS K x kn (beN gh 0) = (beN gh 0 + kn * x) * si % nN := by unfold rsS; rw [← esi]
  rw [ers] at hk
  clear ers
  obtain ⟨a0, ha0⟩ := hE 334 (by decide) (by decide)
  obtain ⟨b0, hb0⟩ := hE 335 (by decide) (by decide)
  obtain ⟨s0, hs0⟩ := hE 332 (by decide) (by decide)
  have q0 := hF.1.1
  have o0 := hO
  have F0 := hF
  have U0 : ks_up S S LSe := ks_up.rf _ _
  have E0 := hE
  have h0 := w333
  have x0 := w329
  have c0 := hC
  have m0 := h336
  refine ks_aload_n dX16_sign_482 rfl rfl ?_
  refine ks_getf (T := TX16) (kf := 16) kx_2384 rfl in_X16 cl_X16 (by decide) o0 rfl dX16_sign_483 rfl ?_
  refine ks_aload_n dX16_sign_486 rfl rfl ?_
  refine ks_getf (T := TX16) (kf := 32) kx_2400 rfl in_X16 cl_X16 (by decide) o0 rfl dX16_sign_487 rfl ?_
  refine ks_aload_n dX16_sign_490 rfl rfl ?_
  refine ks_getf (T := TX16) (kf := 33) kx_2401 rfl in_X16 cl_X16 (by decide) o0 rfl dX16_sign_491 rfl ?_
  refine ks_callV (n := 2) (M' := mX15_enter) (c_rg_enter (d := d + 3) F0 rN_n h0 ha0 (by decide) (by decide)) q0 cl_X15 rfl kx_1917 kx_1918 kx_1919 kx_33 kx_1920 (by decide +kernel) rfl (by decide) (Nat.le_of_ble_eq_true rfl) rfl dX16_sign_494 rfl (fun z1 T1 y1 => ?_)
  obtain ⟨rfl, u1, F1, a1⟩ := y1
  have o1 := u1.at o0 (by decide)
  have c1 := c0.up u1 (by decide)
  have U1 : ks_up S T1 LSe := U0.trans (u1.mono (by decide))
  have x1 := x0.up u1 (by decide)
  have m1 := u1.at m0 (by decide)
  have q1 := F1.1.1
  have h1 := h0.up u1 (by decide)
  have E1 : exW T1 := E0.t u1 ⟨_, a1⟩ (by decide)
  refine ks_aload_n dX16_sign_497 rfl rfl ?_
  refine ks_getf (T := TX16) (kf := 16) kx_2384 rfl in_X16 cl_X16 (by decide) o1 rfl dX16_sign_498 rfl ?_
  refine ks_aload_n dX16_sign_501 rfl rfl ?_
  refine ks_getf (T := TX16) (kf := 33) kx_2401 rfl in_X16 cl_X16 (by decide) o1 rfl dX16_sign_502 rfl ?_
  refine ks_bipush (x := (-2)) dX16_sign_505 (by decide) rfl ?_
  refine ks_iconst (x := nI 0) dX16_sign_507 (by decide) rfl ?_
  refine ks_aload_n dX16_sign_508 rfl rfl ?_
  refine ks_getf (T := TX16) (kf := 33) kx_2401 rfl in_X16 cl_X16 (by decide) o1 rfl dX16_sign_509 rfl ?_
  refine ks_callV (n := 4) (M' := mX15_power) (c_rg_powerM (d := d + 3) F1 rN_n (by decide +kernel) a1 a1 (by decide) (by decide)) q1 cl_X15 rfl kx_2290 kx_2291 kx_2292 kx_33 kx_2293 (by decide +kernel) rfl (by decide) (Nat.le_of_ble_eq_true rfl) rfl dX16_sign_512 rfl (fun z2 T2 y2 => ?_)
  obtain ⟨rfl, u2, F2, a2⟩ := y2
  rw [Nat.pow_zero, Nat.div_one, ← esi] at a2
  have o2 := u2.at o1 (by decide)
  have c2 := c1.up u2 (by decide)
  have U2 : ks_up S T2 LSe := U1.trans (u2.mono (by decide))
  have x2 := x1.up u2 (by decide)
  have m2 := u2.at m1 (by decide)
  have q2 := F2.1.1
  have E2 : exW T2 := E1.t u2 ⟨_, a2⟩ (by decide)
  obtain ⟨b2, g2, h335, -, -⟩ := E2 335 (by decide) (by decide)
  refine ks_iconst (x := nI 0) dX16_sign_515 (by decide) rfl ?_
  refine ks_istore dX16_sign_516 (by decide) rfl ?_
  refine ks_sub [(7, _), (0, _), (1, _), (2, _), (3, _), (4, _)] rfl ?_
  refine ks_iload dX16_sign_518 rfl rfl ?_
  refine ks_bipush (x := nI 8) dX16_sign_520 (by decide) rfl ?_
  refine ks_icmp_geN (tgt := 548) (by decide) (by decide) dX16_sign_522 (by decide) rfl (fun hc522 => ?_) (fun hc522 => ?_)
  · exact absurd hc522 (by decide)
  · refine ks_aload_n dX16_sign_525 rfl rfl ?_
    refine ks_getf (T := TX16) (kf := 34) kx_2402 rfl in_X16 cl_X16 (by decide) o2 rfl dX16_sign_526 rfl ?_
    refine ks_iload dX16_sign_529 rfl rfl ?_
    refine ks_iload dX16_sign_531 rfl rfl ?_
    refine ks_if_neN (tgt := 540) (by decide) dX16_sign_533 (by decide) rfl (fun hc533 => ?_) (fun hc533 => ?_)
    · exact absurd hc533 (by decide)
    · refine ks_iload_n dX16_sign_536 rfl rfl ?_
      refine ks_goto (tgt := 541) dX16_sign_537 (by decide) ?_
      refine ks_iastNN (i := 0) (v := kn) (by decide) h335 (by decide) (by decide) dX16_sign_541 rfl ?_
      refine ks_incN (c := 1) (e := 1) dX16_sign_542 rfl (by decide) rfl (by decide) rfl ?_
      refine ks_sub [(7, _), (0, _), (1, _), (2, _), (3, _), (4, _)] rfl ?_
      refine ks_goto (tgt := 518) dX16_sign_545 (by decide) ?_
      refine ks_iload dX16_sign_518 rfl rfl ?_
      refine ks_bipush (x := nI 8) dX16_sign_520 (by decide) rfl ?_
      refine ks_icmp_geN (tgt := 548) (by decide) (by decide) dX16_sign_522 (by decide) rfl (fun hc522 => ?_) (fun hc522 => ?_)
      · exact absurd hc522 (by decide)
      · refine ks_aload_n dX16_sign_525 rfl rfl ?_
        refine ks_getf (T := TX16) (kf := 34) kx_2402 rfl in_X16 cl_X16 (by decide) ((ks_set_ne _ _ (by decide)).trans o2) rfl dX16_sign_526 rfl ?_
        refine ks_iload dX16_sign_529 rfl rfl ?_
        refine ks_iload dX16_sign_531 rfl rfl ?_
        refine ks_if_neN (tgt := 540) (by decide) dX16_sign_533 (by decide) rfl (fun hc533 => ?_) (fun hc533 => ?_)
        · refine ks_iconst (x := nI 0) dX16_sign_540 (by decide) rfl ?_
          refine ks_iastNN (i := 1) (v := 0) (by decide) (ks_set_same _ _ _) (by decide) (by decide) dX16_sign_541 rfl ?_
          refine ks_incN (c := 1) (e := 2) dX16_sign_542 rfl (by decide) rfl (by decide) rfl ?_
          refine ks_sub [(7, _), (0, _), (1, _), (2, _), (3, _), (4, _)] rfl ?_
          refine ks_goto (tgt := 518) dX16_sign_545 (by decide) ?_
          refine ks_iload dX16_sign_518 rfl rfl ?_
          refine ks_bipush (x := nI 8) dX16_sign_520 (by decide) rfl ?_
          refine ks_icmp_geN (tgt := 548) (by decide) (by decide) dX16_sign_522 (by decide) rfl (fun hc522 => ?_) (fun hc522 => ?_)
          · exact absurd hc522 (by decide)
          · refine ks_aload_n dX16_sign_525 rfl rfl ?_
            refine ks_getf (T := TX16) (kf := 34) kx_2402 rfl in_X16 cl_X16 (by decide) ((ks_set_ne _ _ (by decide)).trans ((ks_set_ne _ _ (by decide)).trans o2)) rfl dX16_sign_526 rfl ?_
            refine ks_iload dX16_sign_529 rfl rfl ?_
            refine ks_iload dX16_sign_531 rfl rfl ?_
            refine ks_if_neN (tgt := 540) (by decide) dX16_sign_533 (by decide) rfl (fun hc533 => ?_) (fun hc533 => ?_)
            · refine ks_iconst (x := nI 0) dX16_sign_540 (by decide) rfl ?_
              refine ks_iastNN (i := 2) (v := 0) (by decide) (ks_set_same _ _ _) (by decide) (by decide) dX16_sign_541 rfl ?_
              refine ks_incN (c := 1) (e := 3) dX16_sign_542 rfl (by decide) rfl (by decide) rfl ?_
              refine ks_sub [(7, _), (0, _), (1, _), (2, _), (3, _), (4, _)] rfl ?_
              refine ks_goto (tgt := 518) dX16_sign_545 (by decide) ?_
              refine ks_iload dX16_sign_518 rfl rfl ?_
              refine ks_bipush (x := nI 8) dX16_sign_520 (by decide) rfl ?_
              refine ks_icmp_geN (tgt := 548) (by decide) (by decide) dX16_sign_522 (by decide) rfl (fun hc522 => ?_) (fun hc522 => ?_)
              · exact absurd hc522 (by decide)
              · refine ks_aload_n dX16_sign_525 rfl rfl ?_
                refine ks_getf (T := TX16) (kf := 34) kx_2402 rfl in_X16 cl_X16 (by decide) ((ks_set_ne _ _ (by decide)).trans ((ks_set_ne _ _ (by decide)).trans ((ks_set_ne _ _ (by decide)).trans o2))) rfl dX16_sign_526 rfl ?_
                refine ks_iload dX16_sign_529 rfl rfl ?_
                refine ks_iload dX16_sign_531 rfl rfl ?_
                refine ks_if_neN (tgt := 540) (by decide) dX16_sign_533 (by decide) rfl (fun hc533 => ?_) (fun hc533 => ?_)
                · refine ks_iconst (x := nI 0) dX16_sign_540 (by decide) rfl ?_
                  refine ks_iastNN (i := 3) (v := 0) (by decide) (ks_set_same _ _ _) (by decide) (by decide) dX16_sign_541 rfl ?_
                  refine ks_incN (c := 1) (e := 4) dX16_sign_542 rfl (by decide) rfl (by decide) rfl ?_
                  refine ks_sub [(7, _), (0, _), (1, _), (2, _), (3, _), (4, _)] rfl ?_
                  refine ks_goto (tgt := 518) dX16_sign_545 (by decide) ?_
                  refine ks_iload dX16_sign_518 rfl rfl ?_
                  refine ks_bipush (x := nI 8) dX16_sign_520 (by decide) rfl ?_
                  refine ks_icmp_geN (tgt := 548) (by decide) (by decide) dX16_sign_522 (by decide) rfl (fun hc522 => ?_) (fun hc522 => ?_)
                  · exact absurd hc522 (by decide)
                  · refine ks_aload_n dX16_sign_525 rfl rfl ?_
                    refine ks_getf (T := TX16) (kf := 34) kx_2402 rfl in_X16 cl_X16 (by decide) ((ks_set_ne _ _ (by decide)).trans ((ks_set_ne _ _ (by decide)).trans ((ks_set_ne _ _ (by decide)).trans ((ks_set_ne _ _ (by decide)).trans o2)))) rfl dX16_sign_526 rfl ?_
                    refine ks_iload dX16_sign_529 rfl rfl ?_
                    refine ks_iload dX16_sign_531 rfl rfl ?_
                    refine ks_if_neN (tgt := 540) (by decide) dX16_sign_533 (by decide) rfl (fun hc533 => ?_) (fun hc533 => ?_)
                    · refine ks_iconst (x := nI 0) dX16_sign_540 (by decide) rfl ?_
                      refine ks_iastNN (i := 4) (v := 0) (by decide) (ks_set_same _ _ _) (by decide) (by decide) dX16_sign_541 rfl ?_
                      refine ks_incN (c := 1) (e := 5) dX16_sign_542 rfl (by decide) rfl (by decide) rfl ?_
                      refine ks_sub [(7, _), (0, _), (1, _), (2, _), (3, _), (4, _)] rfl ?_
                      refine ks_goto (tgt := 518) dX16_sign_545 (by decide) ?_
                      refine ks_iload dX16_sign_518 rfl rfl ?_
                      refine ks_bipush (x := nI 8) dX16_sign_520 (by decide) rfl ?_
                      refine ks_icmp_geN (tgt := 548) (by decide) (by decide) dX16_sign_522 (by decide) rfl (fun hc522 => ?_) (fun hc522 => ?_)
                      · exact absurd hc522 (by decide)
                      · refine ks_aload_n dX16_sign_525 rfl rfl ?_
                        refine ks_getf (T := TX16) (kf := 34) kx_2402 rfl in_X16 cl_X16 (by decide) ((ks_set_ne _ _ (by decide)).trans ((ks_set_ne _ _ (by decide)).trans ((ks_set_ne _ _ (by decide)).trans ((ks_set_ne _ _ (by decide)).trans ((ks_set_ne _ _ (by decide)).trans o2))))) rfl dX16_sign_526 rfl ?_
                        refine ks_iload dX16_sign_529 rfl rfl ?_
                        refine ks_iload dX16_sign_531 rfl rfl ?_
                        refine ks_if_neN (tgt := 540) (by decide) dX16_sign_533 (by decide) rfl (fun hc533 => ?_) (fun hc533 => ?_)
                        · refine ks_iconst (x := nI 0) dX16_sign_540 (by decide) rfl ?_
                          refine ks_iastNN (i := 5) (v := 0) (by decide) (ks_set_same _ _ _) (by decide) (by decide) dX16_sign_541 rfl ?_
                          refine ks_incN (c := 1) (e := 6) dX16_sign_542 rfl (by decide) rfl (by decide) rfl ?_
                          refine ks_sub [(7, _), (0, _), (1, _), (2, _), (3, _), (4, _)] rfl ?_
                          refine ks_goto (tgt := 518) dX16_sign_545 (by decide) ?_
                          refine ks_iload dX16_sign_518 rfl rfl ?_
                          refine ks_bipush (x := nI 8) dX16_sign_520 (by decide) rfl ?_
                          refine ks_icmp_geN (tgt := 548) (by decide) (by decide) dX16_sign_522 (by decide) rfl (fun hc522 => ?_) (fun hc522 => ?_)
                          · exact absurd hc522 (by decide)
                          · refine ks_aload_n dX16_sign_525 rfl rfl ?_
                            refine ks_getf (T := TX16) (kf := 34) kx_2402 rfl in_X16 cl_X16 (by decide) ((ks_set_ne _ _ (by decide)).trans ((ks_set_ne _ _ (by decide)).trans ((ks_set_ne _ _ (by decide)).trans ((ks_set_ne _ _ (by decide)).trans ((ks_set_ne _ _ (by decide)).trans ((ks_set_ne _ _ (by decide)).trans o2)))))) rfl dX16_sign_526 rfl ?_
                            refine ks_iload dX16_sign_529 rfl rfl ?_
                            refine ks_iload dX16_sign_531 rfl rfl ?_
                            refine ks_if_neN (tgt := 540) (by decide) dX16_sign_533 (by decide) rfl (fun hc533 => ?_) (fun hc533 => ?_)
                            · refine ks_iconst (x := nI 0) dX16_sign_540 (by decide) rfl ?_
                              refine ks_iastNN (i := 6) (v := 0) (by decide) (ks_set_same _ _ _) (by decide) (by decide) dX16_sign_541 rfl ?_
                              refine ks_incN (c := 1) (e := 7) dX16_sign_542 rfl (by decide) rfl (by decide) rfl ?_
                              refine ks_sub [(7, _), (0, _), (1, _), (2, _), (3, _), (4, _)] rfl ?_
                              refine ks_goto (tgt := 518) dX16_sign_545 (by decide) ?_
                              refine ks_iload dX16_sign_518 rfl rfl ?_
                              refine ks_bipush (x := nI 8) dX16_sign_520 (by decide) rfl ?_
                              refine ks_icmp_geN (tgt := 548) (by decide) (by decide) dX16_sign_522 (by decide) rfl (fun hc522 => ?_) (fun hc522 => ?_)
                              · exact absurd hc522 (by decide)
                              · refine ks_aload_n dX16_sign_525 rfl rfl ?_
                                refine ks_getf (T := TX16) (kf := 34) kx_2402 rfl in_X16 cl_X16 (by decide) ((ks_set_ne _ _ (by decide)).trans ((ks_set_ne _ _ (by decide)).trans ((ks_set_ne _ _ (by decide)).trans ((ks_set_ne _ _ (by decide)).trans ((ks_set_ne _ _ (by decide)).trans ((ks_set_ne _ _ (by decide)).trans ((ks_set_ne _ _ (by decide)).trans o2))))))) rfl dX16_sign_526 rfl ?_
                                refine ks_iload dX16_sign_529 rfl rfl ?_
                                refine ks_iload dX16_sign_531 rfl rfl ?_
                                refine ks_if_neN (tgt := 540) (by decide) dX16_sign_533 (by decide) rfl (fun hc533 => ?_) (fun hc533 => ?_)
                                · refine ks_iconst (x := nI 0) dX16_sign_540 (by decide) rfl ?_
                                  refine ks_iastNN (i := 7) (v := 0) (by decide) (ks_set_same _ _ _) (by decide) (by decide) dX16_sign_541 rfl ?_
                                  refine ks_incN (c := 1) (e := 8) dX16_sign_542 rfl (by decide) rfl (by decide) rfl ?_
                                  refine ks_sub [(7, _), (0, _), (1, _), (2, _), (3, _), (4, _)] rfl ?_
                                  refine ks_goto (tgt := 518) dX16_sign_545 (by decide) ?_
                                  refine ks_iload dX16_sign_518 rfl rfl ?_
                                  refine ks_bipush (x := nI 8) dX16_sign_520 (by decide) rfl ?_
                                  refine ks_icmp_geN (tgt := 548) (by decide) (by decide) dX16_sign_522 (by decide) rfl (fun hc522 => ?_) (fun hc522 => ?_)
                                  · refine ks_nm (fun T3 e3 => ?_)
                                    have u3 : ks_up T2 T3 [335] := by rw [e3]; exact ks_upL (ks_upL (ks_upL (ks_upL (ks_upL (ks_upL (ks_upL (ks_up_set _ _ (List.mem_singleton.mpr rfl)) (List.mem_singleton.mpr rfl)) (List.mem_singleton.mpr rfl)) (List.mem_singleton.mpr rfl)) (List.mem_singleton.mpr rfl)) (List.mem_singleton.mpr rfl)) (List.mem_singleton.mpr rfl)) (List.mem_singleton.mpr rfl)
                                    obtain ⟨g3, eg3⟩ : ∃ z, z = (va_up (va_up (va_up (va_up (va_up (va_up (va_up (va_up g2 0 kn) 1 0) 2 0) 3 0) 4 0) 5 0) 6 0) 7 0) := ⟨_, rfl⟩
                                    have y3 : T3.2.2 335 = some (kN 8 g3) := by rw [e3, eg3]; exact ks_set_same _ _ _
                                    clear e3
                                    have z1 : ∀ j, 1 ≤ j → j < 8 → g3 j = 0 := fun j h1 h2 => by
                                      rw [eg3]
                                      rcases (show j = 1 ∨ j = 2 ∨ j = 3 ∨ j = 4 ∨ j = 5 ∨ j = 6 ∨ j = 7 by omega) with rfl | rfl | rfl | rfl | rfl | rfl | rfl <;> rfl
                                    have z0 : g3 0 = kn := by rw [eg3]; rfl
                                    have b3 : wA T3 335 kn := ⟨g3, y3, fun j hj => by
                                      by_cases h : j = 0
                                      · rw [h, z0]; omega
                                      · rw [z1 j (by omega) hj]; decide, by rw [dg_one z1, z0]⟩
                                    skip
                                    have F3 := F2.up u3 (by decide)
                                    have o3 := u3.at o2 (by decide)
                                    have c3 := c2.up u3 (by decide)
                                    have U3 : ks_up S T3 LSe := U2.trans (u3.mono (by decide))
                                    have x3 := x2.up u3 (by decide)
                                    have m3 := u3.at m2 (by decide)
                                    have q3 := F3.1.1
                                    have a3 := a2.up u3 (by decide)
                                    have E3 : exW T3 := E2.t u3 ⟨_, b3⟩ (by decide)
                                    refine ks_sub [(0, _), (1, _), (2, _), (3, _), (4, _)] rfl ?_
                                    refine ks_aload_n dX16_sign_548 rfl rfl ?_
                                    refine ks_getf (T := TX16) (kf := 16) kx_2384 rfl in_X16 cl_X16 (by decide) o3 rfl dX16_sign_549 rfl ?_
                                    refine ks_aload_n dX16_sign_552 rfl rfl ?_
                                    refine ks_getf (T := TX16) (kf := 34) kx_2402 rfl in_X16 cl_X16 (by decide) o3 rfl dX16_sign_553 rfl ?_
                                    refine ks_aload_n dX16_sign_556 rfl rfl ?_
                                    refine ks_getf (T := TX16) (kf := 34) kx_2402 rfl in_X16 cl_X16 (by decide) o3 rfl dX16_sign_557 rfl ?_
                                    refine ks_callV (n := 2) (M' := mX15_enter) (c_rg_enter (d := d + 3) F3 rN_n b3 b3 (by decide) (by decide)) q3 cl_X15 rfl kx_1917 kx_1918 kx_1919 kx_33 kx_1920 (by decide +kernel) rfl (by decide) (Nat.le_of_ble_eq_true rfl) rfl dX16_sign_560 rfl (fun z4 T4 y4 => ?_)
                                    obtain ⟨rfl, u4, F4, b4⟩ := y4
                                    have o4 := u4.at o3 (by decide)
                                    have c4 := c3.up u4 (by decide)
                                    have U4 : ks_up S T4 LSe := U3.trans (u4.mono (by decide))
                                    have x4 := x3.up u4 (by decide)
                                    have m4 := u4.at m3 (by decide)
                                    have q4 := F4.1.1
                                    have a4 := a3.up u4 (by decide)
                                    have E4 : exW T4 := E3.t u4 ⟨_, b4⟩ (by decide)
                                    obtain ⟨s4, hs4⟩ := E4 332 (by decide) (by decide)
                                    refine ks_aload_n dX16_sign_563 rfl rfl ?_
                                    refine ks_getf (T := TX16) (kf := 16) kx_2384 rfl in_X16 cl_X16 (by decide) o4 rfl dX16_sign_564 rfl ?_
                                    refine ks_aload_n dX16_sign_567 rfl rfl ?_
                                    refine ks_getf (T := TX16) (kf := 28) kx_2396 rfl in_X16 cl_X16 (by decide) o4 rfl dX16_sign_568 rfl ?_
                                    refine ks_aload_n dX16_sign_571 rfl rfl ?_
                                    refine ks_getf (T := TX16) (kf := 31) kx_2399 rfl in_X16 cl_X16 (by decide) o4 rfl dX16_sign_572 rfl ?_
                                    refine ks_callV (n := 2) (M' := mX15_enter) (c_rg_enter (d := d + 3) F4 rN_n x4 hs4 (by decide) (by decide)) q4 cl_X15 rfl kx_1917 kx_1918 kx_1919 kx_33 kx_1920 (by decide +kernel) rfl (by decide) (Nat.le_of_ble_eq_true rfl) rfl dX16_sign_575 rfl (fun z5 T5 y5 => ?_)
                                    obtain ⟨rfl, u5, F5, s5⟩ := y5
                                    have o5 := u5.at o4 (by decide)
                                    have c5 := c4.up u5 (by decide)
                                    have U5 : ks_up S T5 LSe := U4.trans (u5.mono (by decide))
                                    have x5 := x4.up u5 (by decide)
                                    have m5 := u5.at m4 (by decide)
                                    have q5 := F5.1.1
                                    have a5 := a4.up u5 (by decide)
                                    have b5 := b4.up u5 (by decide)
                                    have E5 : exW T5 := E4.t u5 ⟨_, s5⟩ (by decide)
                                    refine ks_aload_n dX16_sign_578 rfl rfl ?_
                                    refine ks_getf (T := TX16) (kf := 16) kx_2384 rfl in_X16 cl_X16 (by decide) o5 rfl dX16_sign_579 rfl ?_
                                    refine ks_aload_n dX16_sign_582 rfl rfl ?_
                                    refine ks_getf (T := TX16) (kf := 34) kx_2402 rfl in_X16 cl_X16 (by decide) o5 rfl dX16_sign_583 rfl ?_
                                    refine ks_aload_n dX16_sign_586 rfl rfl ?_
                                    refine ks_getf (T := TX16) (kf := 31) kx_2399 rfl in_X16 cl_X16 (by decide) o5 rfl dX16_sign_587 rfl ?_
                                    refine ks_aload_n dX16_sign_590 rfl rfl ?_
                                    refine ks_getf (T := TX16) (kf := 34) kx_2402 rfl in_X16 cl_X16 (by decide) o5 rfl dX16_sign_591 rfl ?_
                                    refine ks_callV (n := 3) (M' := mX15_multiply) (c_rg_mulF (d := d + 4) F5 rN_n b5 s5 b5 (by decide) (by decide) (by decide) (Nat.mod_lt _ (by decide))) q5 cl_X15 rfl kx_2285 kx_1922 kx_1923 kx_33 kx_1924 (by decide +kernel) rfl (by decide) (Nat.le_of_ble_eq_true rfl) rfl dX16_sign_594 rfl (fun z6 T6 y6 => ?_)
                                    obtain ⟨rfl, u6, F6, b6⟩ := y6
                                    rw [mont_mul rN_n.2.1] at b6
                                    have o6 := u6.at o5 (by decide)
                                    have c6 := c5.up u6 (by decide)
                                    have U6 : ks_up S T6 LSe := U5.trans (u6.mono (by decide))
                                    have x6 := x5.up u6 (by decide)
                                    have m6 := u6.at m5 (by decide)
                                    have q6 := F6.1.1
                                    have a6 := a5.up u6 (by decide)
                                    have s6 := s5.up u6 (by decide)
                                    have E6 : exW T6 := E5.t u6 ⟨_, b6⟩ (by decide)
                                    refine ks_aload_n dX16_sign_597 rfl rfl ?_
                                    refine ks_getf (T := TX16) (kf := 35) kx_2403 rfl in_X16 cl_X16 (by decide) o6 rfl dX16_sign_598 rfl ?_
                                    refine ks_iconst (x := nI 0) dX16_sign_601 (by decide) rfl ?_
                                    refine ks_iconst (x := nI 1) dX16_sign_602 (by decide) rfl ?_
                                    refine ks_ti (y := ks_bo true) rfl ?_
                                    refine ks_aload_n dX16_sign_603 rfl rfl ?_
                                    refine ks_getf (T := TX16) (kf := 31) kx_2399 rfl in_X16 cl_X16 (by decide) o6 rfl dX16_sign_604 rfl ?_
                                    refine ks_callS (n := 4) (M' := mX16_fromBytes) (c_md_fromH (d := d + 5) m6 kgh (by decide) (by decide) s6 (by decide)) kx_2043 kx_2044 kx_30 kx_2045 (by decide +kernel) rfl (by decide) (Nat.le_of_ble_eq_true rfl) rfl dX16_sign_607 rfl (fun z7 T7 y7 => ?_)
                                    obtain ⟨rfl, u7, s7⟩ := y7
                                    rw [fb_be] at s7
                                    have F7 := F6.up u7 (by decide)
                                    have o7 := u7.at o6 (by decide)
                                    have c7 := c6.up u7 (by decide)
                                    have U7 : ks_up S T7 LSe := U6.trans (u7.mono (by decide))
                                    have x7 := x6.up u7 (by decide)
                                    have m7 := u7.at m6 (by decide)
                                    have q7 := F7.1.1
                                    have a7 := a6.up u7 (by decide)
                                    have b7 := b6.up u7 (by decide)
                                    have E7 : exW T7 := E6.t u7 ⟨_, s7⟩ (by decide)
                                    refine ks_aload_n dX16_sign_610 rfl rfl ?_
                                    refine ks_getf (T := TX16) (kf := 16) kx_2384 rfl in_X16 cl_X16 (by decide) o7 rfl dX16_sign_611 rfl ?_
                                    refine ks_aload_n dX16_sign_614 rfl rfl ?_
                                    refine ks_getf (T := TX16) (kf := 31) kx_2399 rfl in_X16 cl_X16 (by decide) o7 rfl dX16_sign_615 rfl ?_
                                    refine ks_aload_n dX16_sign_618 rfl rfl ?_
                                    refine ks_getf (T := TX16) (kf := 31) kx_2399 rfl in_X16 cl_X16 (by decide) o7 rfl dX16_sign_619 rfl ?_
                                    refine ks_callV (n := 2) (M' := mX15_enter) (c_rg_enter (d := d + 3) F7 rN_n s7 s7 (by decide) (by decide)) q7 cl_X15 rfl kx_1917 kx_1918 kx_1919 kx_33 kx_1920 (by decide +kernel) rfl (by decide) (Nat.le_of_ble_eq_true rfl) rfl dX16_sign_622 rfl (fun z8 T8 y8 => ?_)
                                    obtain ⟨rfl, u8, F8, s8⟩ := y8
                                    have o8 := u8.at o7 (by decide)
                                    have c8 := c7.up u8 (by decide)
                                    have U8 : ks_up S T8 LSe := U7.trans (u8.mono (by decide))
                                    have x8 := x7.up u8 (by decide)
                                    have m8 := u8.at m7 (by decide)
                                    have q8 := F8.1.1
                                    have a8 := a7.up u8 (by decide)
                                    have b8 := b7.up u8 (by decide)
                                    have E8 : exW T8 := E7.t u8 ⟨_, s8⟩ (by decide)
                                    refine ks_aload_n dX16_sign_625 rfl rfl ?_
                                    refine ks_getf (T := TX16) (kf := 16) kx_2384 rfl in_X16 cl_X16 (by decide) o8 rfl dX16_sign_626 rfl ?_
                                    refine ks_aload_n dX16_sign_629 rfl rfl ?_
                                    refine ks_getf (T := TX16) (kf := 31) kx_2399 rfl in_X16 cl_X16 (by decide) o8 rfl dX16_sign_630 rfl ?_
                                    refine ks_aload_n dX16_sign_633 rfl rfl ?_
                                    refine ks_getf (T := TX16) (kf := 34) kx_2402 rfl in_X16 cl_X16 (by decide) o8 rfl dX16_sign_634 rfl ?_
                                    refine ks_aload_n dX16_sign_637 rfl rfl ?_
                                    refine ks_getf (T := TX16) (kf := 31) kx_2399 rfl in_X16 cl_X16 (by decide) o8 rfl dX16_sign_638 rfl ?_
                                    refine ks_callV (n := 3) (M' := mX15_add) (c_rg_add (d := d + 4) F8.1.1 F8.1.2.1 (by decide) s8 b8 s8 (by decide) (by decide) (Nat.mod_lt _ (by decide)) (Nat.mod_lt _ (by decide))) q8 cl_X15 rfl kx_2286 kx_1862 kx_1863 kx_33 kx_1864 (by decide +kernel) rfl (by decide) (Nat.le_of_ble_eq_true rfl) rfl dX16_sign_641 rfl (fun z9 T9 y9 => ?_)
                                    obtain ⟨rfl, u9, s9⟩ := y9
                                    rw [mont_add] at s9
                                    have F9 := F8.up u9 (by decide)
                                    have o9 := u9.at o8 (by decide)
                                    have c9 := c8.up u9 (by decide)
                                    have U9 : ks_up S T9 LSe := U8.trans (u9.mono (by decide))
                                    have x9 := x8.up u9 (by decide)
                                    have m9 := u9.at m8 (by decide)
                                    have q9 := F9.1.1
                                    have a9 := a8.up u9 (by decide)
                                    have b9 := b8.up u9 (by decide)
                                    have E9 : exW T9 := E8.t u9 ⟨_, s9⟩ (by decide)
                                    refine ks_aload_n dX16_sign_644 rfl rfl ?_
                                    refine ks_getf (T := TX16) (kf := 16) kx_2384 rfl in_X16 cl_X16 (by decide) o9 rfl dX16_sign_645 rfl ?_
                                    refine ks_aload_n dX16_sign_648 rfl rfl ?_
                                    refine ks_getf (T := TX16) (kf := 31) kx_2399 rfl in_X16 cl_X16 (by decide) o9 rfl dX16_sign_649 rfl ?_
                                    refine ks_aload_n dX16_sign_652 rfl rfl ?_
                                    refine ks_getf (T := TX16) (kf := 33) kx_2401 rfl in_X16 cl_X16 (by decide) o9 rfl dX16_sign_653 rfl ?_
                                    refine ks_aload_n dX16_sign_656 rfl rfl ?_
                                    refine ks_getf (T := TX16) (kf := 31) kx_2399 rfl in_X16 cl_X16 (by decide) o9 rfl dX16_sign_657 rfl ?_
                                    refine ks_callV (n := 3) (M' := mX15_multiply) (c_rg_mulF (d := d + 4) F9 rN_n s9 a9 s9 (by decide) (by decide) (by decide) (Nat.mod_lt _ (by decide))) q9 cl_X15 rfl kx_2285 kx_1922 kx_1923 kx_33 kx_1924 (by decide +kernel) rfl (by decide) (Nat.le_of_ble_eq_true rfl) rfl dX16_sign_660 rfl (fun z10 T10 y10 => ?_)
                                    obtain ⟨rfl, u10, F10, s10⟩ := y10
                                    rw [mont_mul rN_n.2.1] at s10
                                    have o10 := u10.at o9 (by decide)
                                    have c10 := c9.up u10 (by decide)
                                    have U10 : ks_up S T10 LSe := U9.trans (u10.mono (by decide))
                                    have x10 := x9.up u10 (by decide)
                                    have m10 := u10.at m9 (by decide)
                                    have q10 := F10.1.1
                                    have a10 := a9.up u10 (by decide)
                                    have b10 := b9.up u10 (by decide)
                                    have E10 : exW T10 := E9.t u10 ⟨_, s10⟩ (by decide)
                                    refine ks_aload_n dX16_sign_663 rfl rfl ?_
                                    refine ks_getf (T := TX16) (kf := 16) kx_2384 rfl in_X16 cl_X16 (by decide) o10 rfl dX16_sign_664 rfl ?_
                                    refine ks_aload_n dX16_sign_667 rfl rfl ?_
                                    refine ks_getf (T := TX16) (kf := 31) kx_2399 rfl in_X16 cl_X16 (by decide) o10 rfl dX16_sign_668 rfl ?_
                                    refine ks_aload_n dX16_sign_671 rfl rfl ?_
                                    refine ks_getf (T := TX16) (kf := 31) kx_2399 rfl in_X16 cl_X16 (by decide) o10 rfl dX16_sign_672 rfl ?_
                                    refine ks_callV (n := 2) (M' := mX15_leave) (c_rg_leave (d := d + 3) F10 rN_n s10 s10 (by decide) (by decide)) q10 cl_X15 rfl kx_2294 kx_2295 kx_2296 kx_33 kx_2297 (by decide +kernel) rfl (by decide) (Nat.le_of_ble_eq_true rfl) rfl dX16_sign_675 rfl (fun z11 T11 y11 => ?_)
                                    obtain ⟨rfl, u11, F11, s11⟩ := y11
                                    rw [mont_out rN_n.2.1] at s11
                                    have o11 := u11.at o10 (by decide)
                                    have c11 := c10.up u11 (by decide)
                                    have U11 : ks_up S T11 LSe := U10.trans (u11.mono (by decide))
                                    have x11 := x10.up u11 (by decide)
                                    have m11 := u11.at m10 (by decide)
                                    have q11 := F11.1.1
                                    have a11 := a10.up u11 (by decide)
                                    have b11 := b10.up u11 (by decide)
                                    have E11 : exW T11 := E10.t u11 ⟨_, s11⟩ (by decide)
                                    exact ks_sub [(0, _), (1, _), (2, _), (3, _), (4, _)] rfl (hk T11 U11 c11 F11 E11 x11 s11)
                                  · exact absurd hc522 (by decide)
                                · exact absurd hc533 (by decide)
                            · exact absurd hc533 (by decide)
                        · exact absurd hc533 (by decide)
                    · exact absurd hc533 (by decide)
                · exact absurd hc533 (by decide)
            · exact absurd hc533 (by decide)
        · exact absurd hc533 (by decide)
set_option maxRecDepth 100000 in
set_option maxHeartbeats 3200000 in
theorem l_sgC {l : Launch} {G : ks_G} {d : Nat} {S : ks_S} {V : Nat → Value} {Gp : Pt} {j kn ty r9 K : Nat} {gh : Nat → Nat} (hO : S.2.2 290 = some (rfE V)) (hcc : ccS S Gp) (hkn : kn < 2 ^ 31) (w333 : wA S 333 K) (h336 : S.2.2 336 = some (kB 32 gh)) (kgh : kO gh) {P9 : Option Value → ks_S → Prop} (hk : ∀ S1 : ks_S, ks_up S S1 LSc → ccS S1 Gp → wA S1 329 (pkX (rkG Gp K) % nN) → wA S1 332 (rsS K (pkX (rkG Gp K) % nN) kn (beN gh 0)) → ks_X l G mX16_sign (d + 6) 678 [(0, .ref 290), (1, .int (nI j)), (2, .int (nI kn)), (3, .int (nI ty)), (4, .int (nI r9))] [] S1 P9) : ks_X l G mX16_sign (d + 6) 411 [(0, .ref 290), (1, .int (nI j)), (2, .int (nI kn)), (3, .int (nI ty)), (4, .int (nI r9))] [] S P9 := by
  obtain ⟨⟨R, hC, hG⟩, hF, h7, hE⟩ := hcc
  obtain ⟨X0, hX0⟩ := hE 329 (by decide) (by decide)
  obtain ⟨Y0, hY0⟩ := hE 330 (by decide) (by decide)
  refine ks_aload_n dX16_sign_411 rfl rfl ?_
  refine ks_aload_n dX16_sign_412 rfl rfl ?_
  refine ks_getf (T := TX16) (kf := 32) kx_2400 rfl in_X16 cl_X16 (by decide) hO rfl dX16_sign_413 rfl ?_
  refine ks_aload_n dX16_sign_416 rfl rfl ?_
  refine ks_getf (T := TX16) (kf := 18) kx_2386 rfl in_X16 cl_X16 (by decide) hO rfl dX16_sign_417 rfl ?_
  refine ks_aload_n dX16_sign_420 rfl rfl ?_
  refine ks_getf (T := TX16) (kf := 20) kx_2388 rfl in_X16 cl_X16 (by decide) hO rfl dX16_sign_421 rfl ?_
  refine ks_callV (n := 3) (M' := mX16_times_) (c_md_times307 (d := d + 1) hO hC w333 (by decide)) hO cl_X16 rfl kx_2309 kx_2311 kxp_115 kx_30 kx_2312 (by decide +kernel) rfl (by decide) (Nat.le_of_ble_eq_true rfl) rfl dX16_sign_424 rfl (fun z1 T1 y1 => ?_)
  obtain ⟨rfl, u1, R1, C1, e1, k1⟩ := y1
  have o1 := u1.at hO (by decide)
  refine ks_aload_n dX16_sign_427 rfl rfl ?_
  refine ks_aload_n dX16_sign_428 rfl rfl ?_
  refine ks_getf (T := TX16) (kf := 20) kx_2388 rfl in_X16 cl_X16 (by decide) o1 rfl dX16_sign_429 rfl ?_
  refine ks_aload_n dX16_sign_432 rfl rfl ?_
  refine ks_getf (T := TX16) (kf := 28) kx_2396 rfl in_X16 cl_X16 (by decide) o1 rfl dX16_sign_433 rfl ?_
  refine ks_aload_n dX16_sign_436 rfl rfl ?_
  refine ks_getf (T := TX16) (kf := 29) kx_2397 rfl in_X16 cl_X16 (by decide) o1 rfl dX16_sign_437 rfl ?_
  refine ks_callV (n := 3) (M' := mX16_flat) (c_md_flat (d := d + 2) o1 C1 (hX0.up u1 (by decide)) (hY0.up u1 (by decide))) o1 cl_X16 rfl kx_2326 kx_2328 kxp_118 kx_30 kx_2329 (by decide +kernel) rfl (by decide) (Nat.le_of_ble_eq_true rfl) rfl dX16_sign_440 rfl (fun z2 T2 y2 => ?_)
  obtain ⟨rfl, u2, R2, C2, k2, wX, wY⟩ := y2
  have o2 := u2.at o1 (by decide)
  have ePZ : ptZ (R1 316, R1 317, R1 318) (rkG Gp K) := by
    have e9 : ((R1 316, R1 317, R1 318) : Pt) = rmL Gp K 256 (R 316, R 317, 0) := by
      rw [← hG]
      exact e1
    rw [e9]
    exact ptZ.L (Or.inr ⟨rfl, rfl⟩)
  rw [show mM (R1 316) (mM (ivM (R1 318)) (ivM (R1 318))) = pkX (rkG Gp K) from pkX_Z ePZ] at wX
  obtain ⟨X, hX⟩ : ∃ X, X = pkX (rkG Gp K) := ⟨_, rfl⟩
  have hXl : X < 2 ^ 256 := by
    rw [hX]
    exact Nat.lt_trans (mM_lt _ _) pP_lt
  rw [← hX] at wX hk
  obtain ⟨YY, hYY⟩ : ∃ v, v = mM (R1 317) (mM (mM (ivM (R1 318)) (ivM (R1 318))) (ivM (R1 318))) := ⟨_, rfl⟩
  rw [← hYY] at wY
  clear hX hYY ePZ e1
  have F2 : rgF T2 555 nN muN := (hF.up u1 (by decide)).up u2 (by decide)
  have E2 : exW T2 := (hE.k u1 (by decide)).up u2 (fun k hk h1 h2 => by
    have q : ∀ k ∈ ([552, 553, 554, 323, 324, 329, 330] : List Nat), 329 ≤ k → k ≤ 335 → k = 329 ∨ k = 330 := by decide
    rcases q k hk h1 h2 with rfl | rfl
    · exact ⟨_, wX⟩
    · exact ⟨_, wY⟩)
  have q2 := F2.1.1
  have h2 := (w333.up u1 (by decide)).up u2 (by decide)
  have m2 := u2.at (u1.at h336 (by decide)) (by decide)
  have U2 : ks_up S T2 LSc := (u1.mono (by decide)).trans (u2.mono (by decide))
  have rG : ptR R2 308 = Gp := by
    rw [← hG]
    unfold ptR
    rw [k2 308 (by decide), k2 309 (by decide), k2 310 (by decide), k1 308 (by decide) (by decide), k1 309 (by decide) (by decide), k1 310 (by decide) (by decide)]
  have f7 : ∀ {T : ks_S}, ks_up T2 T LSc → fX T 306 7 := fun u => ⟨((h7.1.up u1 (by decide)).up u2 (by decide)).up u (by decide), h7.2⟩
  have nb := nN_big
  refine ks_aload_n dX16_sign_443 rfl rfl ?_
  refine ks_getf (T := TX16) (kf := 28) kx_2396 rfl in_X16 cl_X16 (by decide) o2 rfl dX16_sign_444 rfl ?_
  refine ks_aload_n dX16_sign_447 rfl rfl ?_
  refine ks_getf (T := TX16) (kf := 16) kx_2384 rfl in_X16 cl_X16 (by decide) o2 rfl dX16_sign_448 rfl ?_
  refine ks_getN (T := TX15) (kf := 0) kx_1879 rfl in_X15 cl_X15 (by decide) q2 rfl dX16_sign_451 rfl ?_
  refine ks_callS (n := 2) (M' := mX15_compare) (c_rg_compare (d := d + 5) wX F2.1.2.1 (by decide) (by decide)) kx_2035 kx_1870 kx_33 kx_1871 (by decide +kernel) rfl (by decide) (Nat.le_of_ble_eq_true rfl) rfl dX16_sign_454 rfl (fun zb Tb yb => ?_)
  obtain ⟨rfl, hTb⟩ := yb
  obtain rfl := hTb.symm
  refine ks_if_lt (tgt := 482) dX16_sign_457 (by decide) rfl (fun h5 => ?_) (fun h5 => ?_)
  · have hl : X < nN := cmpN_lt.mp h5
    rw [Nat.mod_eq_of_lt hl] at hk
    refine ks_sub [(0, _), (1, _), (2, _), (3, _), (4, _)] rfl (l_sgE o2 C2 F2 E2 hkn wX h2 m2 kgh (fun S9 u9 c9 F9 E9 x9 s9 => hk S9 (U2.trans (u9.mono (by decide))) ⟨⟨R2, c9, rG⟩, F9, f7 (u9.mono (by decide)), E9⟩ x9 s9))
  · have hl : ¬ X < nN := fun h => h5 (cmpN_lt.mpr h)
    refine ks_aload_n dX16_sign_460 rfl rfl ?_
    refine ks_getf (T := TX16) (kf := 28) kx_2396 rfl in_X16 cl_X16 (by decide) o2 rfl dX16_sign_461 rfl ?_
    refine ks_aload_n dX16_sign_464 rfl rfl ?_
    refine ks_getf (T := TX16) (kf := 16) kx_2384 rfl in_X16 cl_X16 (by decide) o2 rfl dX16_sign_465 rfl ?_
    refine ks_getN (T := TX15) (kf := 0) kx_1879 rfl in_X15 cl_X15 (by decide) q2 rfl dX16_sign_468 rfl ?_
    refine ks_aload_n dX16_sign_471 rfl rfl ?_
    refine ks_getf (T := TX16) (kf := 28) kx_2396 rfl in_X16 cl_X16 (by decide) o2 rfl dX16_sign_472 rfl ?_
    refine ks_callS (n := 3) (M' := mX15_less) (c_rg_less (d := d + 5) wX F2.1.2.1 wX (by decide)) kx_2117 kx_1873 kx_33 kx_1874 (by decide +kernel) rfl (by decide) (Nat.le_of_ble_eq_true rfl) rfl dX16_sign_475 rfl (fun z3 T3 y3 => ?_)
    obtain ⟨rfl, u3, x3⟩ := y3
    have eX : (X + 2 ^ 256 - nN) % 2 ^ 256 = X % nN := by
      rw [show X + 2 ^ 256 - nN = X - nN + 2 ^ 256 by omega, Nat.add_mod_right, Nat.mod_eq_of_lt (by omega), Nat.mod_eq_sub_mod (by omega), Nat.mod_eq_of_lt (show X - nN < nN by omega)]
    rw [eX] at x3
    have o3 := u3.at o2 (by decide)
    have F3 := F2.up u3 (by decide)
    have q3 := F3.1.1
    refine ks_pop2_2 dX16_sign_478 rfl rfl ?_
    refine ks_goto (tgt := 443) dX16_sign_479 (by decide) ?_
    refine ks_aload_n dX16_sign_443 rfl rfl ?_
    refine ks_getf (T := TX16) (kf := 28) kx_2396 rfl in_X16 cl_X16 (by decide) o3 rfl dX16_sign_444 rfl ?_
    refine ks_aload_n dX16_sign_447 rfl rfl ?_
    refine ks_getf (T := TX16) (kf := 16) kx_2384 rfl in_X16 cl_X16 (by decide) o3 rfl dX16_sign_448 rfl ?_
    refine ks_getN (T := TX15) (kf := 0) kx_1879 rfl in_X15 cl_X15 (by decide) q3 rfl dX16_sign_451 rfl ?_
    refine ks_callS (n := 2) (M' := mX15_compare) (c_rg_compare (d := d + 5) x3 F3.1.2.1 (by decide) (by decide)) kx_2035 kx_1870 kx_33 kx_1871 (by decide +kernel) rfl (by decide) (Nat.le_of_ble_eq_true rfl) rfl dX16_sign_454 rfl (fun zc Tc yc => ?_)
    obtain ⟨rfl, hTc⟩ := yc
    obtain rfl := hTc.symm
    refine ks_if_lt (tgt := 482) dX16_sign_457 (by decide) rfl (fun h6 => ?_) (fun h6 => ?_)
    · refine ks_sub [(0, _), (1, _), (2, _), (3, _), (4, _)] rfl (l_sgE o3 (C2.up u3 (by decide)) F3 (E2.t u3 ⟨_, x3⟩ (by decide)) hkn x3 (h2.up u3 (by decide)) (u3.at m2 (by decide)) kgh (fun S9 u9 c9 F9 E9 x9 s9 => hk S9 ((U2.trans (u3.mono (by decide))).trans (u9.mono (by decide))) ⟨⟨R2, c9, rG⟩, F9, f7 ((u3.mono (by decide)).trans (u9.mono (by decide))), E9⟩ x9 s9))
    · exact absurd (cmpN_lt.mpr (Nat.mod_lt _ (by decide))) h6
theorem kO_wsI (n : Nat) {gh : Nat → Nat} (h : kO gh) : kO (wsI n gh) := fun j => by
  unfold wsI
  split
  · decide
  · split
    · exact Nat.mod_lt _ (by decide)
    · exact h _
set_option maxRecDepth 100000 in
set_option maxHeartbeats 800000 in
theorem l_sgS {l : Launch} {G : ks_G} {d : Nat} {S : ks_S} {V : Nat → Value} {j kn ty r9 : Nat} {gh g4 : Nat → Nat} (hO : S.2.2 290 = some (rfE V)) (hkn : kn < 2 ^ 31) (h336 : S.2.2 336 = some (kB 32 gh)) (kgh : kO gh) (k4 : kO g4) {P9 : Option Value → ks_S → Prop} (hk : ∀ S1 : ks_S, ks_up S S1 [544] → S1.2.2 544 = some (kB 64 (ks_pt (wsI kn gh) g4 0 64)) → ks_X l G mX16_sign d 343 [(0, .ref 290), (1, .int (nI j)), (2, .int (nI kn)), (3, .int (nI ty)), (4, .int (nI r9))] [] S1 P9) : ∀ (u z : Nat) (S1 : ks_S), z + u = 64 → ks_up S S1 [544] → S1.2.2 544 = some (kB 64 (ks_pt (wsI kn gh) g4 0 z)) → ks_X l G mX16_sign d 281 [(0, .ref 290), (1, .int (nI j)), (2, .int (nI kn)), (3, .int (nI ty)), (4, .int (nI r9)), (7, .int (nI z))] [] S1 P9 := by
  intro u
  induction u with
  | zero =>
    intro z S1 hz hu e1
    have o1 := hu.at hO (by decide)
    have m1 := hu.at h336 (by decide)
    obtain rfl : z = 64 := hz
    refine ks_iload dX16_sign_281 rfl rfl ?_
    refine ks_bipush (x := nI 64) dX16_sign_283 (by decide) rfl ?_
    refine ks_icmp_geN (tgt := 343) (by decide) (by decide) dX16_sign_285 (by decide) rfl (fun h1 => ?_) (fun h1 => absurd h1 (by omega))
    exact ks_sub [(0, _), (1, _), (2, _), (3, _), (4, _)] rfl (hk S1 hu e1)
  | succ u ih =>
    intro z S1 hz hu e1
    have o1 := hu.at hO (by decide)
    have m1 := hu.at h336 (by decide)
    refine ks_iload dX16_sign_281 rfl rfl ?_
    refine ks_bipush (x := nI 64) dX16_sign_283 (by decide) rfl ?_
    refine ks_icmp_geN (tgt := 343) (by omega) (by decide) dX16_sign_285 (by decide) rfl (fun h1 => absurd h1 (by omega)) (fun h1 => ?_)
    refine ks_aload_n dX16_sign_288 rfl rfl ?_
    refine ks_getf (T := TX16) (kf := 118) kx_2486 rfl in_X16 cl_X16 (by decide) o1 rfl dX16_sign_289 rfl ?_
    refine ks_iload dX16_sign_292 rfl rfl ?_
    refine ks_iload dX16_sign_294 rfl rfl ?_
    refine ks_bipush (x := nI 28) dX16_sign_296 (by decide) rfl ?_
    refine ks_icmp_geN (tgt := 305) (by omega) (by decide) dX16_sign_298 (by decide) rfl (fun h2 => ?_) (fun h2 => ?_)
    · refine ks_iload dX16_sign_305 rfl rfl ?_
      refine ks_bipush (x := nI 32) dX16_sign_307 (by decide) rfl ?_
      refine ks_icmp_geN (tgt := 325) (by omega) (by decide) dX16_sign_309 (by decide) rfl (fun h3 => ?_) (fun h3 => ?_)
      · refine ks_aload_n dX16_sign_325 rfl rfl ?_
        refine ks_getf (T := TX16) (kf := 35) kx_2403 rfl in_X16 cl_X16 (by decide) o1 rfl dX16_sign_326 rfl ?_
        refine ks_iload dX16_sign_329 rfl rfl ?_
        refine ks_bipush (x := nI 32) dX16_sign_331 (by decide) rfl ?_
        refine ks_subN (by omega) dX16_sign_333 rfl ?_
        refine ks_baldB (i := z - 32) m1 rfl (by omega) (by decide) dX16_sign_334 rfl ?_
        refine ks_i2b dX16_sign_335 rfl ?_
        refine ks_bastB (i := z) (c := gh (z - 32)) e1 rfl (by omega) (by decide) ((ks_by_i8 _).trans (ks_by_b (kgh _))) dX16_sign_336 rfl ?_
        refine ks_incN (c := 1) (e := z + 1) dX16_sign_337 rfl (by decide) rfl (by decide) rfl ?_
        refine ks_sub [(7, _), (0, _), (1, _), (2, _), (3, _), (4, _)] rfl ?_
        refine ks_goto (tgt := 281) dX16_sign_340 (by decide) ?_
        refine ks_sub [(0, _), (1, _), (2, _), (3, _), (4, _), (7, _)] rfl (ih (z + 1) _ (by omega) (hu.trans (ks_up_set _ _ (List.mem_singleton.mpr rfl))) ?_)
        rw [ks_set_same, ← ks_pt_s, Nat.zero_add, show wsI kn gh z = _ from (if_neg (by omega)).trans (if_neg (by omega))]
      · refine ks_iload_n dX16_sign_312 rfl rfl ?_
        refine ks_bipush (x := nI 8) dX16_sign_313 (by decide) rfl ?_
        refine ks_bipush (x := nI 31) dX16_sign_315 (by decide) rfl ?_
        refine ks_iload dX16_sign_317 rfl rfl ?_
        refine ks_subN (by omega) dX16_sign_319 rfl ?_
        refine ks_mulN dX16_sign_320 rfl ?_
        refine ks_ushrN (k := 8 * (31 - z)) (s_u _ (by omega)) (by omega) dX16_sign_321 rfl ?_
        refine ks_goto (tgt := 335) dX16_sign_322 (by decide) ?_
        refine ks_i2b dX16_sign_335 rfl ?_
        refine ks_bastB (i := z) (c := (kn / 2 ^ (8 * (31 - z))) % 256) e1 rfl (by omega) (by decide) ((ks_by_i8 _).trans (ks_by_nI _)) dX16_sign_336 rfl ?_
        refine ks_incN (c := 1) (e := z + 1) dX16_sign_337 rfl (by decide) rfl (by decide) rfl ?_
        refine ks_sub [(7, _), (0, _), (1, _), (2, _), (3, _), (4, _)] rfl ?_
        refine ks_goto (tgt := 281) dX16_sign_340 (by decide) ?_
        refine ks_sub [(0, _), (1, _), (2, _), (3, _), (4, _), (7, _)] rfl (ih (z + 1) _ (by omega) (hu.trans (ks_up_set _ _ (List.mem_singleton.mpr rfl))) ?_)
        rw [ks_set_same, ← ks_pt_s, Nat.zero_add, show wsI kn gh z = _ from (if_neg (by omega)).trans (if_pos (by omega))]
    · refine ks_iconst (x := nI 0) dX16_sign_301 (by decide) rfl ?_
      refine ks_goto (tgt := 335) dX16_sign_302 (by decide) ?_
      refine ks_i2b dX16_sign_335 rfl ?_
      refine ks_bastB (i := z) (c := 0) e1 rfl (by omega) (by decide) ((ks_by_i8 _).trans (ks_by_nI _)) dX16_sign_336 rfl ?_
      refine ks_incN (c := 1) (e := z + 1) dX16_sign_337 rfl (by decide) rfl (by decide) rfl ?_
      refine ks_sub [(7, _), (0, _), (1, _), (2, _), (3, _), (4, _)] rfl ?_
      refine ks_goto (tgt := 281) dX16_sign_340 (by decide) ?_
      refine ks_sub [(0, _), (1, _), (2, _), (3, _), (4, _), (7, _)] rfl (ih (z + 1) _ (by omega) (hu.trans (ks_up_set _ _ (List.mem_singleton.mpr rfl))) ?_)
      rw [ks_set_same, ← ks_pt_s, Nat.zero_add, show wsI kn gh z = _ from if_pos (by omega)]
set_option maxRecDepth 100000 in
set_option maxHeartbeats 1600000 in
theorem l_sgB {l : Launch} {G : ks_G} {d : Nat} {S : ks_S} {V : Nat → Value} {Gp : Pt} {j kn ty r9 : Nat} {gh g4 g5 : Nat → Nat} (hO : S.2.2 290 = some (rfE V)) (hcc : ccS S Gp) (hkn : kn < 2 ^ 31) (hM : mhR S) (h305 : S.2.2 305 = some (kB 32 g5)) (k5 : kO g5) (h544 : S.2.2 544 = some (kB 64 g4)) (k4 : kO g4) (h336 : S.2.2 336 = some (kB 32 gh)) (kgh : kO gh) {P9 : Option Value → ks_S → Prop} (hk : ∀ S1 : ks_S, ks_up S S1 LSb → ccS S1 Gp → mhR S1 → (∃ g, kO g ∧ S1.2.2 305 = some (kB 32 g)) → (∃ g, kO g ∧ S1.2.2 544 = some (kB 64 g)) → wA S1 329 (pkX (rkG Gp (wsK kn gh)) % nN) → wA S1 332 (rsS (wsK kn gh) (pkX (rkG Gp (wsK kn gh)) % nN) kn (beN gh 0)) → ks_X l G mX16_sign (d + 6) 678 [(0, .ref 290), (1, .int (nI j)), (2, .int (nI kn)), (3, .int (nI ty)), (4, .int (nI r9))] [] S1 P9) : ks_X l G mX16_sign (d + 6) 278 [(0, .ref 290), (1, .int (nI j)), (2, .int (nI kn)), (3, .int (nI ty)), (4, .int (nI r9))] [] S P9 := by
  refine ks_iconst (x := nI 0) dX16_sign_278 (by decide) rfl ?_
  refine ks_istore dX16_sign_279 (by decide) rfl ?_
  refine ks_sub [(7, _), (0, _), (1, _), (2, _), (3, _), (4, _)] rfl ?_
  refine ks_sub [(0, _), (1, _), (2, _), (3, _), (4, _), (7, .int (nI 0))] rfl (l_sgS (g4 := g4) hO hkn h336 kgh k4 (fun T1 u1 e1 => ?_) 64 0 S (by decide) (ks_up.rf _ _) (by rw [ks_pt_0]; exact h544))
  have o1 := u1.at hO (by decide)
  have k1 : kO (ks_pt (wsI kn gh) g4 0 64) := kO_pt (kO_wsI _ kgh) k4 _ _
  refine ks_aload_n dX16_sign_343 rfl rfl ?_
  refine ks_aload_n dX16_sign_344 rfl rfl ?_
  refine ks_getf (T := TX16) (kf := 118) kx_2486 rfl in_X16 cl_X16 (by decide) o1 rfl dX16_sign_345 rfl ?_
  refine ks_iconst (x := nI 0) dX16_sign_348 (by decide) rfl ?_
  refine ks_bipush (x := nI 64) dX16_sign_349 (by decide) rfl ?_
  refine ks_aload_n dX16_sign_351 rfl rfl ?_
  refine ks_getf (T := TX16) (kf := 14) kx_2382 rfl in_X16 cl_X16 (by decide) o1 rfl dX16_sign_352 rfl ?_
  refine ks_iconst (x := nI 0) dX16_sign_355 (by decide) rfl ?_
  refine ks_callV (n := 5) (M' := mX16_sha) (c_md_sha (d := d + 3) o1 (hM.up u1 (by decide)) e1 k1 (i := 0) (n := 64) (by decide) (by decide) (u1.at h305 (by decide)) k5 (oa := 0) (by decide) (by decide) (by decide) (by decide)) o1 cl_X16 rfl kx_1992 kx_1994 kxp_62 kx_30 kx_1995 (by decide +kernel) rfl (by decide) (Nat.le_of_ble_eq_true rfl) rfl dX16_sign_356 rfl (fun z2 T2 y2 => ?_)
  obtain ⟨rfl, u2, m2, e2⟩ := y2
  have eh : sha_ (fun k => ks_pt (wsI kn gh) g4 0 64 (0 + k)) 64 = sha_ (wsI kn gh) 64 := sha_congr (fun k hk => ks_pt_in _ _ _ _ hk)
  rw [eh] at e2
  have k2 : kO (ks_pt (sha_ (wsI kn gh) 64) g5 0 32) := kO_pt (kO_sha _ _) k5 _ _
  have o2 := u2.at o1 (by decide)
  have cc2 : ccS T2 Gp := (hcc.up u1 (by decide)).up u2 (by decide)
  obtain ⟨h00, hh0⟩ := cc2.2.2.2 333 (by decide) (by decide)
  refine ks_aload_n dX16_sign_359 rfl rfl ?_
  refine ks_getf (T := TX16) (kf := 14) kx_2382 rfl in_X16 cl_X16 (by decide) o2 rfl dX16_sign_360 rfl ?_
  refine ks_iconst (x := nI 0) dX16_sign_363 (by decide) rfl ?_
  refine ks_iconst (x := nI 1) dX16_sign_364 (by decide) rfl ?_
  refine ks_ti (y := ks_bo true) rfl ?_
  refine ks_aload_n dX16_sign_365 rfl rfl ?_
  refine ks_getf (T := TX16) (kf := 32) kx_2400 rfl in_X16 cl_X16 (by decide) o2 rfl dX16_sign_366 rfl ?_
  refine ks_callS (n := 4) (M' := mX16_fromBytes) (c_md_fromH (d := d + 5) e2 k2 (by decide) (by decide) hh0 (by decide)) kx_2043 kx_2044 kx_30 kx_2045 (by decide +kernel) rfl (by decide) (Nat.le_of_ble_eq_true rfl) rfl dX16_sign_369 rfl (fun z3 T3 y3 => ?_)
  obtain ⟨rfl, u3, h3⟩ := y3
  have eb : beN (ks_pt (sha_ (wsI kn gh) 64) g5 0 32) 0 = beN (sha_ (wsI kn gh) 64) 0 := beN_c (fun k hk => by rw [ks_pt_in _ _ _ _ hk, Nat.zero_add])
  rw [fb_be, eb] at h3
  obtain ⟨k0, ek0⟩ : ∃ v, v = beN (sha_ (wsI kn gh) 64) 0 := ⟨_, rfl⟩
  have hK : wsK kn gh = k0 % nN := by unfold wsK; rw [ek0]
  rw [← ek0] at h3
  rw [hK] at hk
  have hk0 := h3.lt
  have nb := nN_big
  have o3 := u3.at o2 (by decide)
  have cc3 : ccS T3 Gp := by
    obtain ⟨⟨R, hC, hG⟩, hF, h7, hE⟩ := cc2
    exact ⟨⟨R, hC.up u3 (by decide), hG⟩, hF.up u3 (by decide), ⟨h7.1.up u3 (by decide), h7.2⟩, hE.t u3 ⟨_, h3⟩ (by decide)⟩
  have q3 := cc3.2.1.1.1
  have U3 : ks_up S T3 LSb := ((u1.mono (by decide)).trans (u2.mono (by decide))).trans (u3.mono (by decide))
  have m3 : mhR T3 := m2.up u3 (by decide)
  have f53 := u3.at e2 (by decide)
  have s3 := u3.at (u2.at e1 (by decide)) (by decide)
  have g3 := u3.at (u2.at (u1.at h336 (by decide)) (by decide)) (by decide)
  refine ks_aload_n dX16_sign_372 rfl rfl ?_
  refine ks_getf (T := TX16) (kf := 32) kx_2400 rfl in_X16 cl_X16 (by decide) o3 rfl dX16_sign_373 rfl ?_
  refine ks_aload_n dX16_sign_376 rfl rfl ?_
  refine ks_getf (T := TX16) (kf := 16) kx_2384 rfl in_X16 cl_X16 (by decide) o3 rfl dX16_sign_377 rfl ?_
  refine ks_getN (T := TX15) (kf := 0) kx_1879 rfl in_X15 cl_X15 (by decide) q3 rfl dX16_sign_380 rfl ?_
  refine ks_callS (n := 2) (M' := mX15_compare) (c_rg_compare (d := d + 5) h3 cc3.2.1.1.2.1 (by decide) (by decide)) kx_2035 kx_1870 kx_33 kx_1871 (by decide +kernel) rfl (by decide) (Nat.le_of_ble_eq_true rfl) rfl dX16_sign_383 rfl (fun zb Tb yb => ?_)
  obtain ⟨rfl, hTb⟩ := yb
  obtain rfl := hTb.symm
  refine ks_if_lt (tgt := 411) dX16_sign_386 (by decide) rfl (fun h5 => ?_) (fun h5 => ?_)
  · have hl : k0 < nN := cmpN_lt.mp h5
    rw [Nat.mod_eq_of_lt hl] at hk
    refine ks_sub [(0, _), (1, _), (2, _), (3, _), (4, _)] rfl (l_sgC o3 cc3 hkn h3 g3 kgh (fun S9 u9 c9 x9 s9 => hk S9 ((U3).trans (u9.mono (by decide))) c9 (m3.up u9 (by decide)) ⟨_, k2, u9.at f53 (by decide)⟩ ⟨_, k1, u9.at s3 (by decide)⟩ x9 s9))
  · have hl : ¬ k0 < nN := fun h => h5 (cmpN_lt.mpr h)
    refine ks_aload_n dX16_sign_389 rfl rfl ?_
    refine ks_getf (T := TX16) (kf := 32) kx_2400 rfl in_X16 cl_X16 (by decide) o3 rfl dX16_sign_390 rfl ?_
    refine ks_aload_n dX16_sign_393 rfl rfl ?_
    refine ks_getf (T := TX16) (kf := 16) kx_2384 rfl in_X16 cl_X16 (by decide) o3 rfl dX16_sign_394 rfl ?_
    refine ks_getN (T := TX15) (kf := 0) kx_1879 rfl in_X15 cl_X15 (by decide) q3 rfl dX16_sign_397 rfl ?_
    refine ks_aload_n dX16_sign_400 rfl rfl ?_
    refine ks_getf (T := TX16) (kf := 32) kx_2400 rfl in_X16 cl_X16 (by decide) o3 rfl dX16_sign_401 rfl ?_
    refine ks_callS (n := 3) (M' := mX15_less) (c_rg_less (d := d + 5) h3 cc3.2.1.1.2.1 h3 (by decide)) kx_2117 kx_1873 kx_33 kx_1874 (by decide +kernel) rfl (by decide) (Nat.le_of_ble_eq_true rfl) rfl dX16_sign_404 rfl (fun z4 T4 y4 => ?_)
    obtain ⟨rfl, u4, h4⟩ := y4
    have eX : (k0 + 2 ^ 256 - nN) % 2 ^ 256 = k0 % nN := by
      rw [show k0 + 2 ^ 256 - nN = k0 - nN + 2 ^ 256 by omega, Nat.add_mod_right, Nat.mod_eq_of_lt (by omega), Nat.mod_eq_sub_mod (by omega), Nat.mod_eq_of_lt (show k0 - nN < nN by omega)]
    rw [eX] at h4
    have o4 := u4.at o3 (by decide)
    have cc4 : ccS T4 Gp := by
      obtain ⟨⟨R, hC, hG⟩, hF, h7, hE⟩ := cc3
      exact ⟨⟨R, hC.up u4 (by decide), hG⟩, hF.up u4 (by decide), ⟨h7.1.up u4 (by decide), h7.2⟩, hE.t u4 ⟨_, h4⟩ (by decide)⟩
    have q4 := cc4.2.1.1.1
    refine ks_pop2_2 dX16_sign_407 rfl rfl ?_
    refine ks_goto (tgt := 372) dX16_sign_408 (by decide) ?_
    refine ks_aload_n dX16_sign_372 rfl rfl ?_
    refine ks_getf (T := TX16) (kf := 32) kx_2400 rfl in_X16 cl_X16 (by decide) o4 rfl dX16_sign_373 rfl ?_
    refine ks_aload_n dX16_sign_376 rfl rfl ?_
    refine ks_getf (T := TX16) (kf := 16) kx_2384 rfl in_X16 cl_X16 (by decide) o4 rfl dX16_sign_377 rfl ?_
    refine ks_getN (T := TX15) (kf := 0) kx_1879 rfl in_X15 cl_X15 (by decide) q4 rfl dX16_sign_380 rfl ?_
    refine ks_callS (n := 2) (M' := mX15_compare) (c_rg_compare (d := d + 5) h4 cc4.2.1.1.2.1 (by decide) (by decide)) kx_2035 kx_1870 kx_33 kx_1871 (by decide +kernel) rfl (by decide) (Nat.le_of_ble_eq_true rfl) rfl dX16_sign_383 rfl (fun zc Tc yc => ?_)
    obtain ⟨rfl, hTc⟩ := yc
    obtain rfl := hTc.symm
    refine ks_if_lt (tgt := 411) dX16_sign_386 (by decide) rfl (fun h6 => ?_) (fun h6 => ?_)
    · refine ks_sub [(0, _), (1, _), (2, _), (3, _), (4, _)] rfl (l_sgC o4 cc4 hkn h4 (u4.at g3 (by decide)) kgh (fun S9 u9 c9 x9 s9 => hk S9 ((U3.trans (u4.mono (by decide))).trans (u9.mono (by decide))) c9 ((m3.up u4 (by decide)).up u9 (by decide)) ⟨_, k2, u9.at (u4.at f53 (by decide)) (by decide)⟩ ⟨_, k1, u9.at (u4.at s3 (by decide)) (by decide)⟩ x9 s9))
    · exact absurd (cmpN_lt.mpr (Nat.mod_lt _ (by decide))) h6
