/-! THE REFERENCE: sign, to its end -/
theorem i32_nat {x : Int32} {m : Nat} (hm : m < 2 ^ 31) (h1 : ¬ x < 0) (h2 : ¬ nI m ≤ x) : ∃ j, j < m ∧ x = nI j := by
  obtain ⟨n, hn, rfl⟩ := wb_of32 x
  by_cases h : n < 2 ^ 31
  · refine ⟨n, ?_, rfl⟩
    rw [Int32.le_iff_toInt_le, nI_tI9 hm, nI_tI9 h] at h2
    omega
  · refine absurd ?_ h1
    rw [Int32.lt_iff_toInt_lt]
    show (BitVec.ofNat 32 n).toInt < 0
    rw [BitVec.toInt_eq_toNat_cond, BitVec.toNat_ofNat, Nat.mod_eq_of_lt hn, if_neg (by omega)]
    omega
abbrev LSd (r9 : Nat) : List Nat := [542, 543, 453, 381 + r9]
theorem wsL_row {g : Nat → Nat} {a b x s ty : Nat} {X : List Nat} (hty : ty < 256) (hX : X = [a, b] ++ derB x ++ derB s) (em : X = bytL g 0 X.length) (hn : X.length ≤ 200) : bytL (va_up (va_up (va_up g 0 48) 1 ((X.length - 2) % 256)) X.length (ty % 256)) 0 (X.length + 1) = wsL x s ty := by
  rw [bytL_u1, bytL_set, bytL_set, ← em, Nat.mod_eq_of_lt hty]
  have hl : X.length = 2 + (derB x ++ derB s).length := by
    rw [hX, List.append_assoc, List.length_append]
    rfl
  rw [Nat.mod_eq_of_lt (by omega), hl, Nat.add_sub_cancel_left, hX]
  unfold wsL
  rw [List.append_assoc, List.append_assoc [48, _]]
  rfl
set_option maxRecDepth 100000 in
set_option maxHeartbeats 1600000 in
theorem l_sgD {l : Launch} {G : ks_G} {d : Nat} {S : ks_S} {V : Nat → Value} {j kn ty r9 x s : Nat} {gs iln gq g3 : Nat → Nat} (hO : S.2.2 290 = some (rfE V)) (hty : ty < 256) (hr9 : r9 < 72) (hiln : iln r9 ≤ 500) (w329 : wA S 329 x) (w332 : wA S 332 s) (h542 : S.2.2 542 = some (kB 80 gq)) (kq : kO gq) (h543 : S.2.2 543 = some (kB 32 g3)) (k3 : kO g3) (h380 : S.2.2 380 = some (kA 4 72 rdG)) (h453 : S.2.2 453 = some (kN 72 iln)) (hs : S.2.2 (381 + r9) = some (kB 600 gs)) (kgs : kO gs) {P9 : Option Value → ks_S → Prop} (hk : ∀ (S1 : ks_S) (V1 : Nat → Value) (gs1 : Nat → Nat), pbK (LSd r9) [116] S S1 V V1 → S1.2.2 (381 + r9) = some (kB 600 gs1) → kO gs1 → S1.2.2 453 = some (kN 72 (va_up iln r9 (iln r9 + psz (wsL x s ty).length))) → bytL gs1 0 (iln r9 + psz (wsL x s ty).length) = bytL gs 0 (iln r9) ++ pushL (wsL x s ty) → (∃ g, kO g ∧ S1.2.2 542 = some (kB 80 g)) → (∃ g, kO g ∧ S1.2.2 543 = some (kB 32 g)) → P9 (some (.int (nI (iln r9 + psz (wsL x s ty).length)))) S1) : ks_X l G mX16_sign (d + 6) 678 [(0, .ref 290), (1, .int (nI j)), (2, .int (nI kn)), (3, .int (nI ty)), (4, .int (nI r9))] [] S P9 := by
  refine ks_aload_n dX16_sign_678 rfl rfl ?_
  refine ks_iconst (x := nI 2) dX16_sign_679 (by decide) rfl ?_
  refine ks_putf (T := TX16) (kf := 116) kx_2484 rfl in_X16 tyX16_ok nmX16 cl_X16 (by decide) hO (Nat.le_of_ble_eq_true rfl) rfl rfl rfl rfl dX16_sign_680 rfl ?_
  refine md_put mdp_116 ?_
  refine ks_aload_n dX16_sign_683 rfl rfl ?_
  refine ks_aload_n dX16_sign_684 rfl rfl ?_
  refine ks_getf (T := TX16) (kf := 28) kx_2396 rfl in_X16 cl_X16 (by decide) (ks_set_same _ _ _) rfl dX16_sign_685 rfl ?_
  refine ks_nm (fun T1 e1 => ?_)
  have u1 : ks_up S T1 [290] := by rw [e1]; exact ks_up_set _ _ (List.mem_singleton.mpr rfl)
  have o1 : T1.2.2 290 = some (rfE (va_up V 116 (.int (nI 2)))) := by rw [e1]; exact ks_set_same _ _ _
  clear e1
  have K1 : pbK [542, 543] [116] S T1 V (va_up V 116 (.int (nI 2))) := ⟨u1.mono (by decide), o1, fun k hk => va_up_ne _ _ (fun e => hk (by rw [e]; decide))⟩
  have B1 : buX T1 (va_up V 116 (.int (nI 2))) 542 80 116 [gq 0, gq 1] := ⟨va_up_self _ _ _, gq, u1.at h542 (by decide), kq, show 2 ≤ 80 by decide, rfl⟩
  have dx := derB_len x
  have ds := derB_len s
  refine ks_callV (n := 1) (M' := mX16_der) (c_md_der (d := d + 4) (m := [gq 0, gq 1]) o1 (w329.up u1 (by decide)) (by decide) (u1.at h543 (by decide)) k3 (show 2 + 36 ≤ 80 by decide) B1) o1 cl_X16 rfl kx_2800 kx_2802 kxp_132 kx_30 kx_2803 (by decide +kernel) rfl (by decide) (Nat.le_of_ble_eq_true rfl) rfl dX16_sign_688 rfl (fun z2 T2 y2 => ?_)
  obtain ⟨rfl, V2, J2, B2, g32, k32, h5432⟩ := y2
  have K2 := K1.trans J2
  refine ks_aload_n dX16_sign_691 rfl rfl ?_
  refine ks_aload_n dX16_sign_692 rfl rfl ?_
  refine ks_getf (T := TX16) (kf := 31) kx_2399 rfl in_X16 cl_X16 (by decide) J2.2.1 rfl dX16_sign_693 rfl ?_
  refine ks_callV (n := 1) (M' := mX16_der) (c_md_der (d := d + 4) J2.2.1 ((w332.up u1 (by decide)).up J2.1 (by decide)) (by decide) h5432 k32 (by rw [List.length_append]; show 2 + _ + 36 ≤ 80; omega) B2) J2.2.1 cl_X16 rfl kx_2800 kx_2802 kxp_132 kx_30 kx_2803 (by decide +kernel) rfl (by decide) (Nat.le_of_ble_eq_true rfl) rfl dX16_sign_696 rfl (fun z3 T3 y3 => ?_)
  obtain ⟨rfl, V3, J3, B3, g33, k33, h5433⟩ := y3
  have K3 := K2.trans J3
  obtain ⟨X, eX⟩ : ∃ X, X = [gq 0, gq 1] ++ derB x ++ derB s := ⟨_, rfl⟩
  have lX : X.length = 2 + ((derB x).length + (derB s).length) := by
    rw [eX, List.append_assoc, List.length_append, List.length_append]
    rfl
  rw [← eX] at B3
  obtain ⟨vX, g, e542, kg, hX80, em⟩ := B3
  have o3 := J3.2.1
  refine ks_aload_n dX16_sign_699 rfl rfl ?_
  refine ks_getf (T := TX16) (kf := 115) kx_2483 rfl in_X16 cl_X16 (by decide) o3 rfl dX16_sign_700 rfl ?_
  refine ks_iconst (x := nI 0) dX16_sign_703 (by decide) rfl ?_
  refine ks_bipush (x := nI 48) dX16_sign_704 (by decide) rfl ?_
  refine ks_bastB (i := 0) (c := 48) e542 rfl (by decide) (by decide) (ks_by_nI _) dX16_sign_706 rfl ?_
  refine ks_aload_n dX16_sign_707 rfl rfl ?_
  refine ks_getf (T := TX16) (kf := 115) kx_2483 rfl in_X16 cl_X16 (by decide) ((ks_set_ne _ _ (by decide)).trans o3) rfl dX16_sign_708 rfl ?_
  refine ks_iconst (x := nI 1) dX16_sign_711 (by decide) rfl ?_
  refine ks_aload_n dX16_sign_712 rfl rfl ?_
  refine ks_getf (T := TX16) (kf := 116) kx_2484 rfl in_X16 cl_X16 (by decide) ((ks_set_ne _ _ (by decide)).trans o3) rfl dX16_sign_713 rfl ?_
  refine ks_tv vX ?_
  refine ks_iconst (x := nI 2) dX16_sign_716 (by decide) rfl ?_
  refine ks_subN (by omega) dX16_sign_717 rfl ?_
  refine ks_i2b dX16_sign_718 rfl ?_
  refine ks_bastB (i := 1) (c := (X.length - 2) % 256) (ks_set_same _ _ _) rfl (by decide) (by decide) ((ks_by_i8 _).trans (ks_by_nI _)) dX16_sign_719 rfl ?_
  refine ks_aload_n dX16_sign_720 rfl rfl ?_
  refine ks_getf (T := TX16) (kf := 115) kx_2483 rfl in_X16 cl_X16 (by decide) ((ks_set_ne _ _ (by decide)).trans ((ks_set_ne _ _ (by decide)).trans o3)) rfl dX16_sign_721 rfl ?_
  refine ks_aload_n dX16_sign_724 rfl rfl ?_
  refine ks_getf (T := TX16) (kf := 116) kx_2484 rfl in_X16 cl_X16 (by decide) ((ks_set_ne _ _ (by decide)).trans ((ks_set_ne _ _ (by decide)).trans o3)) rfl dX16_sign_725 rfl ?_
  refine ks_tv vX ?_
  refine ks_iload_n dX16_sign_728 rfl rfl ?_
  refine ks_i2b dX16_sign_729 rfl ?_
  refine ks_bastB (i := X.length) (c := ty % 256) (ks_set_same _ _ _) rfl (by omega) (by decide) ((ks_by_i8 _).trans (ks_by_nI _)) dX16_sign_730 rfl ?_
  refine ks_aload_n dX16_sign_731 rfl rfl ?_
  refine ks_dup dX16_sign_732 rfl rfl ?_
  refine ks_getf (T := TX16) (kf := 116) kx_2484 rfl in_X16 cl_X16 (by decide) ((ks_set_ne _ _ (by decide)).trans ((ks_set_ne _ _ (by decide)).trans ((ks_set_ne _ _ (by decide)).trans o3))) rfl dX16_sign_733 rfl ?_
  refine ks_tv vX ?_
  refine ks_iconst (x := nI 1) dX16_sign_736 (by decide) rfl ?_
  refine ks_addN dX16_sign_737 rfl ?_
  refine ks_putf (T := TX16) (kf := 116) kx_2484 rfl in_X16 tyX16_ok nmX16 cl_X16 (by decide) ((ks_set_ne _ _ (by decide)).trans ((ks_set_ne _ _ (by decide)).trans ((ks_set_ne _ _ (by decide)).trans o3))) (Nat.le_of_ble_eq_true rfl) rfl rfl rfl rfl dX16_sign_738 rfl ?_
  refine md_put mdp_116 ?_
  refine ks_aload_n dX16_sign_741 rfl rfl ?_
  refine ks_iload dX16_sign_742 rfl rfl ?_
  refine ks_aload_n dX16_sign_744 rfl rfl ?_
  refine ks_getf (T := TX16) (kf := 115) kx_2483 rfl in_X16 cl_X16 (by decide) (ks_set_same _ _ _) rfl dX16_sign_745 rfl ?_
  refine ks_aload_n dX16_sign_748 rfl rfl ?_
  refine ks_getf (T := TX16) (kf := 116) kx_2484 rfl in_X16 cl_X16 (by decide) (ks_set_same _ _ _) rfl dX16_sign_749 rfl ?_
  refine ks_tv (va_up_self _ _ _) ?_
  refine ks_nm (fun T4 e4 => ?_)
  have u4 : ks_up T3 T4 [290, 542] := by rw [e4]; exact ks_upL (ks_upL (ks_upL (ks_up_set (L := [290, 542]) _ _ (by decide)) (by decide)) (by decide)) (by decide)
  have e5 : T4.2.2 542 = some (kB 80 (va_up (va_up (va_up g 0 48) 1 ((X.length - 2) % 256)) X.length (ty % 256))) := by rw [e4]; exact ((ks_set_ne _ _ (by decide)).trans (ks_set_same _ _ _))
  have o4 : T4.2.2 290 = some (rfE (va_up V3 116 (.int (nI (X.length + 1))))) := by rw [e4]; exact ks_set_same _ _ _
  clear e4
  have hw := wsL_row (ty := ty) hty eX em (by omega)
  have hwl : (wsL x s ty).length = X.length + 1 := by rw [← hw, bytL_len]
  have k5 : kO (va_up (va_up (va_up g 0 48) 1 ((X.length - 2) % 256)) X.length (ty % 256)) := kO_up (kO_up (kO_up kg (by decide)) (Nat.mod_lt _ (by decide))) (Nat.mod_lt _ (by decide))
  obtain ⟨g4, eg4⟩ : ∃ z, z = (va_up (va_up (va_up g 0 48) 1 ((X.length - 2) % 256)) X.length (ty % 256)) := ⟨_, rfl⟩
  rw [← eg4] at e5 hw k5
  have K4 : pbK [542, 543] [116] S T4 V (va_up V3 116 (.int (nI (X.length + 1)))) := K3.trans ⟨u4.mono (by decide), o4, fun k hk => va_up_ne _ _ (fun e => hk (by rw [e]; decide))⟩
  have t4 : ∀ {a : Nat} {e : ks_E}, S.2.2 a = some e → a ≠ 290 → a ≠ 542 → a ≠ 543 → T4.2.2 a = some e := fun h1 h2 h3 h4 => K4.1.at h1 (by simp only [List.mem_cons, List.not_mem_nil, or_false]; omega)
  have hps : psz (X.length + 1) ≤ X.length + 1 + 3 := by unfold psz; (repeat' split) <;> omega
  refine ks_callV (n := 3) (M' := mX16_pushTo) (c_md_pushTo (L := X.length + 1) o4 (t4 h380 (by decide) (by decide) (by decide)) (t4 h453 (by decide) (by decide) (by decide)) hr9 (t4 hs (by omega) (by omega) (by omega)) kgs e5 k5 (by omega) (by decide) (by omega) (by decide)) o4 cl_X16 rfl kx_2792 kx_2794 kxp_131 kx_30 kx_2795 (by decide +kernel) rfl (by decide) (Nat.le_of_ble_eq_true rfl) rfl dX16_sign_752 rfl (fun z5 T5 y5 => ?_)
  obtain ⟨rfl, gs5, u5, e6, k6, q453, hb5⟩ := y5
  rw [hw, ← hwl] at hb5
  rw [← hwl] at q453
  have n5 : ∀ {a : Nat}, a ≠ 381 + r9 → a ≠ 453 → a ∉ [381 + r9, 453] := fun h1 h2 hm => by simp only [List.mem_cons, List.not_mem_nil, or_false] at hm; omega
  have o5 := u5.at o4 (n5 (by omega) (by decide))
  refine ks_aload_n dX16_sign_755 rfl rfl ?_
  refine ks_getf (T := TX16) (kf := 102) kx_2470 rfl in_X16 cl_X16 (by decide) o5 rfl dX16_sign_756 rfl ?_
  refine ks_iload dX16_sign_759 rfl rfl ?_
  refine ks_ialdN (i := r9) q453 rfl (by omega) (by decide) dX16_sign_761 rfl ?_
  refine ks_iret rfl dX16_sign_762 ?_
  rw [va_up_self]
  refine hk T5 _ gs5 ⟨(K4.1.mono (fun a ha => ?_)).trans (u5.mono (fun a ha => ?_)), o5, K4.2.2⟩ e6 k6 q453 hb5 ⟨g4, k5, u5.at e5 (n5 (by omega) (by decide))⟩ ⟨g33, k33, u5.at (u4.at h5433 (by decide)) (n5 (by omega) (by decide))⟩
  · simp only [LSd, List.mem_cons, List.not_mem_nil, or_false] at ha ⊢
    omega
  · simp only [LSd, List.mem_cons, List.not_mem_nil, or_false] at ha ⊢
    omega
set_option maxRecDepth 100000 in
set_option maxHeartbeats 1600000 in
theorem r_signS {l : Launch} {G : ks_G} {d : Nat} {S : ks_S} {V : Nat → Value} (hO : S.2.2 290 = some (rfE V)) {t : Nat} {x y q : Int32} (v94 : V 94 = .int (nI t)) (ht : t ≤ 12) (h0 : t = 0) : ks_P l G yX16_sign mX16_sign (d + 1) [.ref 290, .int x, .int y, .int q] S (fun z S' => z = some (.int (nI 0)) ∧ ∃ V', pbK [] [111] S S' V V' ∧ V' 111 = .int (nI 2)) := by
  refine ks_of (by decide) rfl rfl (Nat.le_of_ble_eq_true rfl) ?_
  show ks_X l G mX16_sign (d + 1) 0 [(0, .ref 290), (1, .int x), (2, .int y), (3, .int q)] [] S _
  refine ks_aload_n dX16_sign_0 rfl rfl ?_
  refine ks_aload_n dX16_sign_1 rfl rfl ?_
  refine ks_getf (T := TX16) (kf := 94) kx_2462 rfl in_X16 cl_X16 (by decide) hO rfl dX16_sign_2 rfl ?_
  refine ks_tv v94 ?_
  refine ks_if_leN (tgt := 12) (by omega) dX16_sign_5 (by decide) rfl (fun hc5 => ?_) (fun hc5 => ?_)
  · refine ks_iconst (x := nI 0) dX16_sign_12 (by decide) rfl ?_
    refine ks_iconst (x := nI 2) dX16_sign_13 (by decide) rfl ?_
    refine ks_callV (n := 2) (M' := mX16_good) (c_md_good0 hO) hO cl_X16 rfl kx_2734 kx_2736 kxp_127 kx_30 kx_2737 (by decide +kernel) rfl (by decide) (Nat.le_of_ble_eq_true rfl) rfl dX16_sign_14 rfl (fun z14 S14 y14 => ?_)
    obtain ⟨rfl, V14, J14, v14⟩ := y14
    refine ks_if_eqN (tgt := 57) (by decide) dX16_sign_17 (by decide) rfl (fun hc17 => ?_) (fun hc17 => ?_)
    · refine ks_iconst (x := nI 0) dX16_sign_57 (by decide) rfl ?_
      refine ks_iret rfl dX16_sign_58 ?_
      exact ⟨rfl, _, J14, v14⟩
    · exact absurd hc17 (by decide)
  · refine ks_iconst (x := nI 1) dX16_sign_8 (by decide) rfl ?_
    refine ks_goto (tgt := 13) dX16_sign_9 (by decide) ?_
    refine ks_iconst (x := nI 2) dX16_sign_13 (by decide) rfl ?_
    omega
set_option maxRecDepth 100000 in
set_option maxHeartbeats 1600000 in
theorem r_sign {l : Launch} {G : ks_G} {d : Nat} {S : ks_S} {V : Nat → Value} (hO : S.2.2 290 = some (rfE V)) {i : Nat} (v94 : V 94 = .int (nI (i + 1))) {D : Nat → dTx} (hD : rdS S (i + 1) D) {x y q : Int32} (hx : ¬ (¬ x < 0 ∧ ¬ nI (D i).2.2.1.length ≤ x ∧ ¬ y < nI 1 ∧ ¬ q < 0 ∧ q ≤ nI 255)) : ks_P l G yX16_sign mX16_sign (d + 1) [.ref 290, .int x, .int y, .int q] S (fun z S' => z = some (.int (nI 0)) ∧ ∃ V', pbK [] [111] S S' V V' ∧ V' 111 = .int (nI 1)) := by
  have hi12 := hD.1
  obtain ⟨-, ver, loc, inp, out, ids, ix, seq, iln, val, oln, sc, so, U, A⟩ := id hD
  have hA := A i (by omega)
  have hlen := (rdS_len (S := S) (t := i) (D := D) hA).1
  have h6 := hA.2.1
  obtain ⟨⟨h374, h375, h376, h377⟩, ⟨h378, kid⟩, ⟨h379, h453, h454, h528⟩, ⟨h380, h455⟩, hsc, ksc, hso, kso, hix⟩ := id U
  refine ks_of (by decide) rfl rfl (Nat.le_of_ble_eq_true rfl) ?_
  show ks_X l G mX16_sign (d + 1) 0 [(0, .ref 290), (1, .int x), (2, .int y), (3, .int q)] [] S _
  refine ks_aload_n dX16_sign_0 rfl rfl ?_
  refine ks_aload_n dX16_sign_1 rfl rfl ?_
  refine ks_getf (T := TX16) (kf := 94) kx_2462 rfl in_X16 cl_X16 (by decide) hO rfl dX16_sign_2 rfl ?_
  refine ks_tv v94 ?_
  refine ks_if_leN (tgt := 12) (by omega) dX16_sign_5 (by decide) rfl (fun hc5 => ?_) (fun hc5 => ?_)
  · refine ks_iconst (x := nI 0) dX16_sign_12 (by decide) rfl ?_
    refine ks_iconst (x := nI 2) dX16_sign_13 (by decide) rfl ?_
    omega
  · refine ks_iconst (x := nI 1) dX16_sign_8 (by decide) rfl ?_
    refine ks_goto (tgt := 13) dX16_sign_9 (by decide) ?_
    refine ks_iconst (x := nI 2) dX16_sign_13 (by decide) rfl ?_
    refine ks_callV (n := 2) (M' := mX16_good) (c_md_good1 hO) hO cl_X16 rfl kx_2734 kx_2736 kxp_127 kx_30 kx_2737 (by decide +kernel) rfl (by decide) (Nat.le_of_ble_eq_true rfl) rfl dX16_sign_14 rfl (fun z14 S14 y14 => ?_)
    obtain ⟨rfl, V14, J14, v14⟩ := y14
    refine ks_if_eqN (tgt := 57) (by decide) dX16_sign_17 (by decide) rfl (fun hc17 => ?_) (fun hc17 => ?_)
    · exact absurd hc17 (by decide)
    · refine ks_aload_n dX16_sign_20 rfl rfl ?_
      refine ks_aload_n dX16_sign_21 rfl rfl ?_
      refine ks_iload_n dX16_sign_22 rfl rfl ?_
      rcases Classical.em (¬ x < 0 ∧ ¬ nI (inp i) ≤ x) with hb | hb
      · obtain ⟨j, hj, rfl⟩ := i32_nat (by omega) hb.1 hb.2
        refine ks_callV (n := 1) (M' := mX16_hasInput) (c_md_hasInput1 J14.2.1 ((J14.2.2 94 (by decide)).trans v94) (by omega) (J14.1.at h376 (by decide)) h6 hj) J14.2.1 cl_X16 rfl kx_2788 kx_2790 kxp_130 kx_30 kx_2791 (by decide +kernel) rfl (by decide) (Nat.le_of_ble_eq_true rfl) rfl dX16_sign_23 rfl (fun z2 S2 y2 => ?_)
        obtain ⟨rfl, hq2⟩ := y2
        obtain rfl := hq2.symm
        refine ks_if_eqN (tgt := 49) (by decide) dX16_sign_26 (by decide) rfl (fun hc26 => ?_) (fun hc26 => ?_)
        · exact absurd hc26 (by decide)
        · refine ks_iload_n dX16_sign_29 rfl rfl ?_
          refine ks_iconst (x := nI 1) dX16_sign_30 (by decide) rfl ?_
          refine ks_icmp_lt (tgt := 49) dX16_sign_31 (by decide) rfl (fun hc31 => ?_) (fun hc31 => ?_)
          · refine ks_iconst (x := nI 0) dX16_sign_49 (by decide) rfl ?_
            refine ks_iconst (x := nI 1) dX16_sign_50 (by decide) rfl ?_
            refine ks_callV (n := 2) (M' := mX16_good) (c_md_good0 J14.2.1) J14.2.1 cl_X16 rfl kx_2734 kx_2736 kxp_127 kx_30 kx_2737 (by decide +kernel) rfl (by decide) (Nat.le_of_ble_eq_true rfl) rfl dX16_sign_51 rfl (fun z51 S51 y51 => ?_)
            obtain ⟨rfl, V51, J51, v51⟩ := y51
            have K51 := J14.trans J51
            refine ks_if_neN (tgt := 59) (by decide) dX16_sign_54 (by decide) rfl (fun hc54 => ?_) (fun hc54 => ?_)
            · exact absurd hc54 (by decide)
            · refine ks_iconst (x := nI 0) dX16_sign_57 (by decide) rfl ?_
              refine ks_iret rfl dX16_sign_58 ?_
              exact ⟨rfl, _, K51, v51⟩
          · refine ks_iload_n dX16_sign_34 rfl rfl ?_
            refine ks_if_lt (tgt := 49) dX16_sign_35 (by decide) rfl (fun hc35 => ?_) (fun hc35 => ?_)
            · refine ks_iconst (x := nI 0) dX16_sign_49 (by decide) rfl ?_
              refine ks_iconst (x := nI 1) dX16_sign_50 (by decide) rfl ?_
              refine ks_callV (n := 2) (M' := mX16_good) (c_md_good0 J14.2.1) J14.2.1 cl_X16 rfl kx_2734 kx_2736 kxp_127 kx_30 kx_2737 (by decide +kernel) rfl (by decide) (Nat.le_of_ble_eq_true rfl) rfl dX16_sign_51 rfl (fun z51 S51 y51 => ?_)
              obtain ⟨rfl, V51, J51, v51⟩ := y51
              have K51 := J14.trans J51
              refine ks_if_neN (tgt := 59) (by decide) dX16_sign_54 (by decide) rfl (fun hc54 => ?_) (fun hc54 => ?_)
              · exact absurd hc54 (by decide)
              · refine ks_iconst (x := nI 0) dX16_sign_57 (by decide) rfl ?_
                refine ks_iret rfl dX16_sign_58 ?_
                exact ⟨rfl, _, K51, v51⟩
            · refine ks_iload_n dX16_sign_38 rfl rfl ?_
              refine ks_sipush (x := nI 255) dX16_sign_39 (by decide) rfl ?_
              refine ks_icmp_gt (tgt := 49) dX16_sign_42 (by decide) rfl (fun hc42 => ?_) (fun hc42 => ?_)
              · refine ks_iconst (x := nI 0) dX16_sign_49 (by decide) rfl ?_
                refine ks_iconst (x := nI 1) dX16_sign_50 (by decide) rfl ?_
                refine ks_callV (n := 2) (M' := mX16_good) (c_md_good0 J14.2.1) J14.2.1 cl_X16 rfl kx_2734 kx_2736 kxp_127 kx_30 kx_2737 (by decide +kernel) rfl (by decide) (Nat.le_of_ble_eq_true rfl) rfl dX16_sign_51 rfl (fun z51 S51 y51 => ?_)
                obtain ⟨rfl, V51, J51, v51⟩ := y51
                have K51 := J14.trans J51
                refine ks_if_neN (tgt := 59) (by decide) dX16_sign_54 (by decide) rfl (fun hc54 => ?_) (fun hc54 => ?_)
                · exact absurd hc54 (by decide)
                · refine ks_iconst (x := nI 0) dX16_sign_57 (by decide) rfl ?_
                  refine ks_iret rfl dX16_sign_58 ?_
                  exact ⟨rfl, _, K51, v51⟩
              · refine ks_iconst (x := nI 1) dX16_sign_45 (by decide) rfl ?_
                refine ks_goto (tgt := 50) dX16_sign_46 (by decide) ?_
                refine ks_iconst (x := nI 1) dX16_sign_50 (by decide) rfl ?_
                exact absurd ⟨hb.1, by rw [hlen]; exact hb.2, hc31, hc35, Int32.not_lt.mp hc42⟩ hx
      · refine ks_callV (n := 1) (M' := mX16_hasInput) (c_md_hasInput0 J14.2.1 ((J14.2.2 94 (by decide)).trans v94) (by omega) (J14.1.at h376 (by decide)) h6 hb) J14.2.1 cl_X16 rfl kx_2788 kx_2790 kxp_130 kx_30 kx_2791 (by decide +kernel) rfl (by decide) (Nat.le_of_ble_eq_true rfl) rfl dX16_sign_23 rfl (fun z2 S2 y2 => ?_)
        obtain ⟨rfl, hq2⟩ := y2
        obtain rfl := hq2.symm
        refine ks_if_eqN (tgt := 49) (by decide) dX16_sign_26 (by decide) rfl (fun hc26 => ?_) (fun hc26 => ?_)
        · refine ks_iconst (x := nI 0) dX16_sign_49 (by decide) rfl ?_
          refine ks_iconst (x := nI 1) dX16_sign_50 (by decide) rfl ?_
          refine ks_callV (n := 2) (M' := mX16_good) (c_md_good0 J14.2.1) J14.2.1 cl_X16 rfl kx_2734 kx_2736 kxp_127 kx_30 kx_2737 (by decide +kernel) rfl (by decide) (Nat.le_of_ble_eq_true rfl) rfl dX16_sign_51 rfl (fun z51 S51 y51 => ?_)
          obtain ⟨rfl, V51, J51, v51⟩ := y51
          have K51 := J14.trans J51
          refine ks_if_neN (tgt := 59) (by decide) dX16_sign_54 (by decide) rfl (fun hc54 => ?_) (fun hc54 => ?_)
          · exact absurd hc54 (by decide)
          · refine ks_iconst (x := nI 0) dX16_sign_57 (by decide) rfl ?_
            refine ks_iret rfl dX16_sign_58 ?_
            exact ⟨rfl, _, K51, v51⟩
        · exact absurd hc26 (by decide)
set_option maxRecDepth 100000 in
set_option maxHeartbeats 1600000 in
theorem r_signF {l : Launch} {G : ks_G} {d : Nat} {S : ks_S} {V : Nat → Value} (hO : S.2.2 290 = some (rfE V)) {i : Nat} (v94 : V 94 = .int (nI (i + 1))) {D : Nat → dTx} (hD : rdS S (i + 1) D) {j q : Nat} {y : Int32} {x : dIn} (hxi : (D i).2.2.1[j]? = some x) (hy : ¬ y < nI 1) (hq : q ≤ 255) (hfit : ¬ x.2.2.1.length ≤ 500) : ks_P l G yX16_sign mX16_sign (d + 1) [.ref 290, .int (nI j), .int y, .int (nI q)] S (fun z S' => z = some (.int (nI 0)) ∧ ∃ V', pbK [] [111] S S' V V' ∧ V' 111 = .int (nI 3)) := by
  have hi12 := hD.1
  obtain ⟨-, ver, loc, inp, out, ids, ix, seq, iln, val, oln, sc, so, U, A⟩ := id hD
  have hA := A i (by omega)
  have hlen := (rdS_len (S := S) (t := i) (D := D) hA).1
  have h6 := hA.2.1
  obtain ⟨⟨h374, h375, h376, h377⟩, ⟨h378, kid⟩, ⟨h379, h453, h454, h528⟩, ⟨h380, h455⟩, hsc, ksc, hso, kso, hix⟩ := id U
  have hxe := hxi
  rw [hA.1] at hxe
  obtain ⟨hj, ex⟩ := rdI_get hxe
  have lx : x.2.2.1.length = iln (6 * i + j) := by rw [ex]; exact bytL_len _ _ _
  have hi6 := hA.2.2.2.1 j hj
  refine ks_of (by decide) rfl rfl (Nat.le_of_ble_eq_true rfl) ?_
  show ks_X l G mX16_sign (d + 1) 0 [(0, .ref 290), (1, .int (nI j)), (2, .int y), (3, .int (nI q))] [] S _
  refine ks_aload_n dX16_sign_0 rfl rfl ?_
  refine ks_aload_n dX16_sign_1 rfl rfl ?_
  refine ks_getf (T := TX16) (kf := 94) kx_2462 rfl in_X16 cl_X16 (by decide) hO rfl dX16_sign_2 rfl ?_
  refine ks_tv v94 ?_
  refine ks_if_leN (tgt := 12) (by omega) dX16_sign_5 (by decide) rfl (fun hc5 => ?_) (fun hc5 => ?_)
  · refine ks_iconst (x := nI 0) dX16_sign_12 (by decide) rfl ?_
    refine ks_iconst (x := nI 2) dX16_sign_13 (by decide) rfl ?_
    omega
  · refine ks_iconst (x := nI 1) dX16_sign_8 (by decide) rfl ?_
    refine ks_goto (tgt := 13) dX16_sign_9 (by decide) ?_
    refine ks_iconst (x := nI 2) dX16_sign_13 (by decide) rfl ?_
    refine ks_callV (n := 2) (M' := mX16_good) (c_md_good1 hO) hO cl_X16 rfl kx_2734 kx_2736 kxp_127 kx_30 kx_2737 (by decide +kernel) rfl (by decide) (Nat.le_of_ble_eq_true rfl) rfl dX16_sign_14 rfl (fun z14 S14 y14 => ?_)
    obtain ⟨rfl, V14, J14, v14⟩ := y14
    refine ks_if_eqN (tgt := 57) (by decide) dX16_sign_17 (by decide) rfl (fun hc17 => ?_) (fun hc17 => ?_)
    · exact absurd hc17 (by decide)
    · refine ks_aload_n dX16_sign_20 rfl rfl ?_
      refine ks_aload_n dX16_sign_21 rfl rfl ?_
      refine ks_iload_n dX16_sign_22 rfl rfl ?_
      refine ks_callV (n := 1) (M' := mX16_hasInput) (c_md_hasInput1 J14.2.1 ((J14.2.2 94 (by decide)).trans v94) (by omega) (J14.1.at h376 (by decide)) h6 hj) J14.2.1 cl_X16 rfl kx_2788 kx_2790 kxp_130 kx_30 kx_2791 (by decide +kernel) rfl (by decide) (Nat.le_of_ble_eq_true rfl) rfl dX16_sign_23 rfl (fun z2 S2 y2 => ?_)
      obtain ⟨rfl, hq2⟩ := y2
      obtain rfl := hq2.symm
      refine ks_if_eqN (tgt := 49) (by decide) dX16_sign_26 (by decide) rfl (fun hc26 => ?_) (fun hc26 => ?_)
      · exact absurd hc26 (by decide)
      · refine ks_iload_n dX16_sign_29 rfl rfl ?_
        refine ks_iconst (x := nI 1) dX16_sign_30 (by decide) rfl ?_
        refine ks_icmp_lt (tgt := 49) dX16_sign_31 (by decide) rfl (fun hc31 => ?_) (fun hc31 => ?_)
        · exact absurd hc31 hy
        · refine ks_iload_n dX16_sign_34 rfl rfl ?_
          refine ks_if_ltN (tgt := 49) (by omega) dX16_sign_35 (by decide) rfl ?_
          refine ks_iload_n dX16_sign_38 rfl rfl ?_
          refine ks_sipush (x := nI 255) dX16_sign_39 (by decide) rfl ?_
          refine ks_icmp_gtN (tgt := 49) (by omega) (by decide) dX16_sign_42 (by decide) rfl (fun hc42 => ?_) (fun hc42 => ?_)
          · refine ks_iconst (x := nI 0) dX16_sign_49 (by decide) rfl ?_
            refine ks_iconst (x := nI 1) dX16_sign_50 (by decide) rfl ?_
            omega
          · refine ks_iconst (x := nI 1) dX16_sign_45 (by decide) rfl ?_
            refine ks_goto (tgt := 50) dX16_sign_46 (by decide) ?_
            refine ks_iconst (x := nI 1) dX16_sign_50 (by decide) rfl ?_
            refine ks_callV (n := 2) (M' := mX16_good) (c_md_good1 J14.2.1) J14.2.1 cl_X16 rfl kx_2734 kx_2736 kxp_127 kx_30 kx_2737 (by decide +kernel) rfl (by decide) (Nat.le_of_ble_eq_true rfl) rfl dX16_sign_51 rfl (fun z51 S51 y51 => ?_)
            obtain ⟨rfl, V51, J51, v51⟩ := y51
            have K51 := J14.trans J51
            refine ks_if_neN (tgt := 59) (by decide) dX16_sign_54 (by decide) rfl (fun hc54 => ?_) (fun hc54 => ?_)
            · refine ks_bipush (x := nI 6) dX16_sign_59 (by decide) rfl ?_
              refine ks_aload_n dX16_sign_61 rfl rfl ?_
              refine ks_getf (T := TX16) (kf := 94) kx_2462 rfl in_X16 cl_X16 (by decide) J51.2.1 rfl dX16_sign_62 rfl ?_
              refine ks_tv ((J51.2.2 94 (by decide)).trans ((J14.2.2 94 (by decide)).trans v94)) ?_
              refine ks_iconst (x := nI 1) dX16_sign_65 (by decide) rfl ?_
              refine ks_subN (by omega) dX16_sign_66 rfl ?_
              refine ks_ti (y := nI (i)) rfl ?_
              refine ks_mulN dX16_sign_67 rfl ?_
              refine ks_iload_n dX16_sign_68 rfl rfl ?_
              refine ks_addN dX16_sign_69 rfl ?_
              refine ks_istore dX16_sign_70 (by decide) rfl ?_
              refine ks_sub [(4, _), (0, _), (1, _), (2, _), (3, _)] rfl ?_
              refine ks_aload_n dX16_sign_72 rfl rfl ?_
              refine ks_aload_n dX16_sign_73 rfl rfl ?_
              refine ks_getf (T := TX16) (kf := 102) kx_2470 rfl in_X16 cl_X16 (by decide) J51.2.1 rfl dX16_sign_74 rfl ?_
              refine ks_iload dX16_sign_77 rfl rfl ?_
              refine ks_ialdN (i := 6 * i + j) (J51.1.at (J14.1.at h453 (by decide)) (by decide)) rfl (by omega) (by decide) dX16_sign_79 rfl ?_
              refine ks_sipush (x := nI 500) dX16_sign_80 (by decide) rfl ?_
              refine ks_icmp_gtN (tgt := 90) (by omega) (by decide) dX16_sign_83 (by decide) rfl (fun hc83 => ?_) (fun hc83 => ?_)
              · refine ks_iconst (x := nI 0) dX16_sign_90 (by decide) rfl ?_
                refine ks_iconst (x := nI 3) dX16_sign_91 (by decide) rfl ?_
                refine ks_callV (n := 2) (M' := mX16_good) (c_md_good0 J51.2.1) J51.2.1 cl_X16 rfl kx_2734 kx_2736 kxp_127 kx_30 kx_2737 (by decide +kernel) rfl (by decide) (Nat.le_of_ble_eq_true rfl) rfl dX16_sign_92 rfl (fun z92 S92 y92 => ?_)
                obtain ⟨rfl, V92, J92, v92⟩ := y92
                have K92 := K51.trans J92
                refine ks_if_neN (tgt := 100) (by decide) dX16_sign_95 (by decide) rfl (fun hc95 => ?_) (fun hc95 => ?_)
                · exact absurd hc95 (by decide)
                · refine ks_iconst (x := nI 0) dX16_sign_98 (by decide) rfl ?_
                  refine ks_iret rfl dX16_sign_99 ?_
                  exact ⟨rfl, _, K92, v92⟩
              · refine ks_iconst (x := nI 1) dX16_sign_86 (by decide) rfl ?_
                refine ks_goto (tgt := 91) dX16_sign_87 (by decide) ?_
                refine ks_iconst (x := nI 3) dX16_sign_91 (by decide) rfl ?_
                omega
            · exact absurd hc54 (by decide)
abbrev LSn : List Nat := LSa ++ (LSb ++ ([542, 543] ++ LDw))
abbrev FSn : List Nat := [40, 41, 63, 87, 88, 89, 91, 107, 110, 111, 116]
/-- what sign asks of the reference's rows and leaves there -/
def sgR (S : ks_S) (V : Nat → Value) (Gp : Pt) : Prop := (∃ g, kO g ∧ S.2.2 529 = some (kB 131072 g)) ∧ dpS S ∧ (∃ c, ctX S V c) ∧ mhR S ∧ (∃ g, kO g ∧ S.2.2 305 = some (kB 32 g)) ∧ (∃ g, kO g ∧ S.2.2 336 = some (kB 32 g)) ∧ (∃ X, buX S V 373 16384 91 X) ∧ ccS S Gp ∧ (∃ g, kO g ∧ S.2.2 544 = some (kB 64 g)) ∧ (∃ g, kO g ∧ S.2.2 542 = some (kB 80 g)) ∧ ∃ g, kO g ∧ S.2.2 543 = some (kB 32 g)
theorem pbK.ct {L F : List Nat} {S S1 : ks_S} {V V1 : Nat → Value} {c : List Nat} (h : pbK L F S S1 V V1) (hc : ctX S V c) (hL : 371 ∉ 290 :: L ∧ 372 ∉ 290 :: L) (hF : 87 ∉ F ∧ 88 ∉ F ∧ 89 ∉ F) : ctX S1 V1 c := by
  obtain ⟨a, b, ga, gb, q1, q2, q3, q4, q5, q6, q7, q8, q9⟩ := hc
  refine ⟨a, b, ga, gb, q1, (h.2.2 87 hF.1).trans q2, (h.2.2 88 hF.2.1).trans q3, h.1.at q4 ?_, q5, h.1.at q6 ?_, q7, (h.2.2 89 hF.2.2).trans q8, q9⟩
  · rcases q1 with ⟨rfl, -⟩ | ⟨rfl, -⟩
    · exact hL.1
    · exact hL.2
  · rcases q1 with ⟨-, rfl⟩ | ⟨-, rfl⟩
    · exact hL.2
    · exact hL.1
theorem dpS.up {S S1 : ks_S} {L : List Nat} (h : dpS S) (hu : ks_up S S1 L) (hL : ∀ x ∈ L, x < 534 ∨ 540 < x) : dpS S1 := by
  obtain ⟨⟨v, h1⟩, h2⟩ := h
  refine ⟨⟨v, hu.at h1 (fun hm => by have := hL _ hm; omega)⟩, fun r hr => ?_⟩
  obtain ⟨f, hf⟩ := h2 r hr
  exact ⟨f, hu.at hf (fun hm => by have := hL _ hm; omega)⟩
/-- the signature that the reference makes -/
def rsW (Gp : Pt) (kn : Nat) (gh : Nat → Nat) (ty : Nat) : List Nat := wsL (pkX (rkG Gp (wsK kn gh)) % nN) (rsS (wsK kn gh) (pkX (rkG Gp (wsK kn gh)) % nN) kn (beN gh 0)) ty
theorem rsW_len (Gp : Pt) (kn : Nat) (gh : Nat → Nat) (ty : Nat) : psz (rsW Gp kn gh ty).length ≤ 76 := by
  have h : ∀ x s : Nat, psz (wsL x s ty).length ≤ 76 := fun x s => by
    have dx := derB_len x
    have ds := derB_len s
    have : (wsL x s ty).length ≤ 73 := by
      unfold wsL
      simp only [List.length_append, List.length_cons, List.length_nil]
      omega
    unfold psz
    (repeat' split) <;> omega
  exact h _ _
set_option maxRecDepth 100000 in
set_option maxHeartbeats 1600000 in
theorem c_mr_sign {l : Launch} {G : ks_G} {d : Nat} {S : ks_S} {V : Nat → Value} (hO : S.2.2 290 = some (rfE V)) {i : Nat} (v94 : V 94 = .int (nI (i + 1))) {D : Nat → dTx} (hD : rdS S (i + 1) D) {T : List Nat} (hB : buX S V 531 1600 110 T) {j kn ty : Nat} {x : dIn} {Gp : Pt} (hxi : (D i).2.2.1[j]? = some x) (hx5 : x.2.2.1.length ≤ 500) (hkn : 1 ≤ kn ∧ kn < 2 ^ 31) (hty : ty < 256) (hR : sgR S V Gp) : ks_P l G yX16_sign mX16_sign (d + 6) [.ref 290, .int (nI j), .int (nI kn), .int (nI ty)] S (fun z S' => ∃ gh, kO gh ∧ bytL gh 0 32 = sgD (D i) j ty T ∧ z = some (.int (nI (x.2.2.1.length + psz (rsW Gp kn gh ty).length))) ∧ ∃ V', pbK LSn FSn S S' V V' ∧ V' 111 = .int (nI 0) ∧ buX S' V' 531 1600 110 [] ∧ rdS S' (i + 1) (va_up D i ((D i).1, (D i).2.1, dPush (D i).2.2.1 j (pushL (rsW Gp kn gh ty)), (D i).2.2.2)) ∧ sgR S' V' Gp) := by
  have hi12 := hD.1
  obtain ⟨-, ver, loc, inp, out, ids, ix, seq, iln, val, oln, sc, so, U, A⟩ := id hD
  have hA := A i (by omega)
  have hlen := (rdS_len (S := S) (t := i) (D := D) hA).1
  have h6 := hA.2.1
  obtain ⟨⟨h374, h375, h376, h377⟩, ⟨h378, kid⟩, ⟨h379, h453, h454, h528⟩, ⟨h380, h455⟩, hsc, ksc, hso, kso, hix⟩ := id U
  have hxe := hxi
  rw [hA.1] at hxe
  obtain ⟨hj, ex⟩ := rdI_get hxe
  have lx : x.2.2.1.length = iln (6 * i + j) := by rw [ex]; exact bytL_len _ _ _
  have hi6 := hA.2.2.2.1 j hj
  refine ks_of (by decide) rfl rfl (Nat.le_of_ble_eq_true rfl) ?_
  show ks_X l G mX16_sign (d + 6) 0 [(0, .ref 290), (1, .int (nI j)), (2, .int (nI kn)), (3, .int (nI ty))] [] S _
  refine ks_aload_n dX16_sign_0 rfl rfl ?_
  refine ks_aload_n dX16_sign_1 rfl rfl ?_
  refine ks_getf (T := TX16) (kf := 94) kx_2462 rfl in_X16 cl_X16 (by decide) hO rfl dX16_sign_2 rfl ?_
  refine ks_tv v94 ?_
  refine ks_if_leN (tgt := 12) (by omega) dX16_sign_5 (by decide) rfl (fun hc5 => ?_) (fun hc5 => ?_)
  · refine ks_iconst (x := nI 0) dX16_sign_12 (by decide) rfl ?_
    refine ks_iconst (x := nI 2) dX16_sign_13 (by decide) rfl ?_
    omega
  · refine ks_iconst (x := nI 1) dX16_sign_8 (by decide) rfl ?_
    refine ks_goto (tgt := 13) dX16_sign_9 (by decide) ?_
    refine ks_iconst (x := nI 2) dX16_sign_13 (by decide) rfl ?_
    refine ks_callV (n := 2) (M' := mX16_good) (c_md_good1 hO) hO cl_X16 rfl kx_2734 kx_2736 kxp_127 kx_30 kx_2737 (by decide +kernel) rfl (by decide) (Nat.le_of_ble_eq_true rfl) rfl dX16_sign_14 rfl (fun z14 S14 y14 => ?_)
    obtain ⟨rfl, V14, J14, v14⟩ := y14
    refine ks_if_eqN (tgt := 57) (by decide) dX16_sign_17 (by decide) rfl (fun hc17 => ?_) (fun hc17 => ?_)
    · exact absurd hc17 (by decide)
    · refine ks_aload_n dX16_sign_20 rfl rfl ?_
      refine ks_aload_n dX16_sign_21 rfl rfl ?_
      refine ks_iload_n dX16_sign_22 rfl rfl ?_
      refine ks_callV (n := 1) (M' := mX16_hasInput) (c_md_hasInput1 J14.2.1 ((J14.2.2 94 (by decide)).trans v94) (by omega) (J14.1.at h376 (by decide)) h6 hj) J14.2.1 cl_X16 rfl kx_2788 kx_2790 kxp_130 kx_30 kx_2791 (by decide +kernel) rfl (by decide) (Nat.le_of_ble_eq_true rfl) rfl dX16_sign_23 rfl (fun z2 S2 y2 => ?_)
      obtain ⟨rfl, hq2⟩ := y2
      obtain rfl := hq2.symm
      refine ks_if_eqN (tgt := 49) (by decide) dX16_sign_26 (by decide) rfl (fun hc26 => ?_) (fun hc26 => ?_)
      · exact absurd hc26 (by decide)
      · refine ks_iload_n dX16_sign_29 rfl rfl ?_
        refine ks_iconst (x := nI 1) dX16_sign_30 (by decide) rfl ?_
        refine ks_icmp_ltN (tgt := 49) (by omega) (by decide) dX16_sign_31 (by decide) rfl (fun hc31 => ?_) (fun hc31 => ?_)
        · refine ks_iconst (x := nI 0) dX16_sign_49 (by decide) rfl ?_
          refine ks_iconst (x := nI 1) dX16_sign_50 (by decide) rfl ?_
          omega
        · refine ks_iload_n dX16_sign_34 rfl rfl ?_
          refine ks_if_ltN (tgt := 49) (by omega) dX16_sign_35 (by decide) rfl ?_
          refine ks_iload_n dX16_sign_38 rfl rfl ?_
          refine ks_sipush (x := nI 255) dX16_sign_39 (by decide) rfl ?_
          refine ks_icmp_gtN (tgt := 49) (by omega) (by decide) dX16_sign_42 (by decide) rfl (fun hc42 => ?_) (fun hc42 => ?_)
          · refine ks_iconst (x := nI 0) dX16_sign_49 (by decide) rfl ?_
            refine ks_iconst (x := nI 1) dX16_sign_50 (by decide) rfl ?_
            omega
          · refine ks_iconst (x := nI 1) dX16_sign_45 (by decide) rfl ?_
            refine ks_goto (tgt := 50) dX16_sign_46 (by decide) ?_
            refine ks_iconst (x := nI 1) dX16_sign_50 (by decide) rfl ?_
            refine ks_callV (n := 2) (M' := mX16_good) (c_md_good1 J14.2.1) J14.2.1 cl_X16 rfl kx_2734 kx_2736 kxp_127 kx_30 kx_2737 (by decide +kernel) rfl (by decide) (Nat.le_of_ble_eq_true rfl) rfl dX16_sign_51 rfl (fun z51 S51 y51 => ?_)
            obtain ⟨rfl, V51, J51, v51⟩ := y51
            have K51 := J14.trans J51
            refine ks_if_neN (tgt := 59) (by decide) dX16_sign_54 (by decide) rfl (fun hc54 => ?_) (fun hc54 => ?_)
            · refine ks_bipush (x := nI 6) dX16_sign_59 (by decide) rfl ?_
              refine ks_aload_n dX16_sign_61 rfl rfl ?_
              refine ks_getf (T := TX16) (kf := 94) kx_2462 rfl in_X16 cl_X16 (by decide) J51.2.1 rfl dX16_sign_62 rfl ?_
              refine ks_tv ((J51.2.2 94 (by decide)).trans ((J14.2.2 94 (by decide)).trans v94)) ?_
              refine ks_iconst (x := nI 1) dX16_sign_65 (by decide) rfl ?_
              refine ks_subN (by omega) dX16_sign_66 rfl ?_
              refine ks_ti (y := nI (i)) rfl ?_
              refine ks_mulN dX16_sign_67 rfl ?_
              refine ks_iload_n dX16_sign_68 rfl rfl ?_
              refine ks_addN dX16_sign_69 rfl ?_
              refine ks_istore dX16_sign_70 (by decide) rfl ?_
              refine ks_sub [(4, _), (0, _), (1, _), (2, _), (3, _)] rfl ?_
              refine ks_aload_n dX16_sign_72 rfl rfl ?_
              refine ks_aload_n dX16_sign_73 rfl rfl ?_
              refine ks_getf (T := TX16) (kf := 102) kx_2470 rfl in_X16 cl_X16 (by decide) J51.2.1 rfl dX16_sign_74 rfl ?_
              refine ks_iload dX16_sign_77 rfl rfl ?_
              refine ks_ialdN (i := 6 * i + j) (J51.1.at (J14.1.at h453 (by decide)) (by decide)) rfl (by omega) (by decide) dX16_sign_79 rfl ?_
              refine ks_sipush (x := nI 500) dX16_sign_80 (by decide) rfl ?_
              refine ks_icmp_gtN (tgt := 90) (by omega) (by decide) dX16_sign_83 (by decide) rfl (fun hc83 => ?_) (fun hc83 => ?_)
              · refine ks_iconst (x := nI 0) dX16_sign_90 (by decide) rfl ?_
                refine ks_iconst (x := nI 3) dX16_sign_91 (by decide) rfl ?_
                omega
              · refine ks_iconst (x := nI 1) dX16_sign_86 (by decide) rfl ?_
                refine ks_goto (tgt := 91) dX16_sign_87 (by decide) ?_
                refine ks_iconst (x := nI 3) dX16_sign_91 (by decide) rfl ?_
                refine ks_callV (n := 2) (M' := mX16_good) (c_md_good1 J51.2.1) J51.2.1 cl_X16 rfl kx_2734 kx_2736 kxp_127 kx_30 kx_2737 (by decide +kernel) rfl (by decide) (Nat.le_of_ble_eq_true rfl) rfl dX16_sign_92 rfl (fun z92 S92 y92 => ?_)
                obtain ⟨rfl, V92, J92, v92⟩ := y92
                have K92 := K51.trans J92
                refine ks_if_neN (tgt := 100) (by decide) dX16_sign_95 (by decide) rfl (fun hc95 => ?_) (fun hc95 => ?_)
                · obtain ⟨⟨g529, k529, h529⟩, hP, ⟨c0, hC⟩, hM, ⟨g5, k5, h305⟩, ⟨g6, k6, h336⟩, ⟨X0, hX0⟩, hcc, ⟨g4, k4, h544⟩, ⟨gq, kq, h542⟩, g3, k3, h543⟩ := id hR
                  have K9 : pbK [] [111] S S92 V V92 := K92
                  have t9 : ∀ {a : Nat} {e : ks_E}, S.2.2 a = some e → a ≠ 290 → S92.2.2 a = some e := fun h1 h2 => K9.1.at h1 (by rw [List.mem_singleton]; exact h2)
                  have up9 : ∀ x ∈ ([290] : List Nat), x = 290 := fun x hx => by rw [List.mem_singleton] at hx; exact hx
                  have D9 := hD.up K9.1 (fun x hx => by rw [up9 x hx]; decide)
                  refine ks_sub [(0, _), (1, _), (2, _), (3, _), (4, .int (nI (6 * i + j)))] rfl (l_sgA (d := d) (T := T) (D := D) (i := i) K9.2.1 (K9.bu hB (by decide) (by decide)) ((K9.2.2 94 (by decide)).trans v94) D9 (by rw [hlen]; exact hj) hty (t9 h529 (by decide)) k529 (hP.up K9.1 (fun x hx => by rw [up9 x hx]; decide)) (K9.ct hC (by decide) (by decide)) (hM.up K9.1 (by decide)) (t9 h305 (by decide)) k5 (t9 h336 (by decide)) k6 (K9.bu hX0 (by decide) (by decide)) (fun T1 V1 J1 B1 P1 C1 M1 f51 Bx1 g529a ms1 => ?_))
                  obtain ⟨g51, k51, f51⟩ := f51
                  obtain ⟨gh, kgh, ms1, hgh⟩ := ms1
                  have t1 : ∀ {a : Nat} {e : ks_E}, S.2.2 a = some e → a ∉ 290 :: LSa → T1.2.2 a = some e := fun {a e} h1 h2 => J1.1.at (t9 h1 (fun h => h2 (by rw [h]; exact List.mem_cons_self))) h2
                  refine l_sgB (d := d) (Gp := Gp) J1.2.1 ((hcc.up K9.1 (by decide)).up J1.1 (by decide)) hkn.2 M1 f51 k51 (t1 h544 (by decide)) k4 ms1 kgh (fun T2 u2 cc2 M2 f52 sd2 x2 s2 => ?_)
                  have t2 : ∀ {a : Nat} {e : ks_E}, S.2.2 a = some e → a ∉ 290 :: LSa → a ∉ LSb → T2.2.2 a = some e := fun h1 h2 h3 => u2.at (t1 h1 h2) h3
                  have nA : ∀ {a : Nat}, 374 ≤ a → a < 529 → a ∉ 290 :: LSa ∧ a ∉ LSb := fun h1 h2 => by
                    refine ⟨fun hm => ?_, fun hm => ?_⟩
                    · simp only [LSa, List.mem_cons, List.not_mem_nil, or_false] at hm
                      omega
                    · simp only [LSb, List.mem_cons, List.not_mem_nil, or_false] at hm
                      omega
                  have td : ∀ {a : Nat} {e : ks_E}, S.2.2 a = some e → 374 ≤ a → a < 529 → T2.2.2 a = some e := fun h1 h2 h3 => t2 h1 (nA h2 h3).1 (nA h2 h3).2
                  have o2 := u2.at J1.2.1 (by decide)
                  refine l_sgD (d := d) (r9 := 6 * i + j) (iln := iln) o2 hty (by omega) (by omega) x2 s2 (t2 h542 (by decide) (by decide)) kq (t2 h543 (by decide) (by decide)) k3 (td h380 (by decide) (by decide)) (td h453 (by decide) (by decide)) (td (hsc _ (by omega)) (by omega) (by omega)) (ksc _) (fun T3 V3 gs3 J3 e3 ks3 q453 hb3 r542 r543 => ?_)
                  have n3 : ∀ {a : Nat}, a ≠ 290 → a ≠ 542 → a ≠ 543 → a ≠ 453 → a ≠ 381 + (6 * i + j) → a ∉ 290 :: LSd (6 * i + j) := fun h1 h2 h3 h4 h5 hm => by
                    simp only [LSd, List.mem_cons, List.not_mem_nil, or_false] at hm
                    omega
                  have t3 : ∀ {a : Nat} {e : ks_E}, T2.2.2 a = some e → a ≠ 290 → a ≠ 542 → a ≠ 543 → a ≠ 453 → a ≠ 381 + (6 * i + j) → T3.2.2 a = some e := fun h1 h2 h3 h4 h5 h6 => J3.1.at h1 (n3 h2 h3 h4 h5 h6)
                  have z3 : ∀ {a : Nat} {e : ks_E}, S.2.2 a = some e → 374 ≤ a → a < 529 → a ≠ 453 → a ≠ 381 + (6 * i + j) → T3.2.2 a = some e := fun h1 h2 h3 h4 h5 => t3 (td h1 h2 h3) (by omega) (by omega) (by omega) h4 h5
                  have KA : pbK LSn FSn S T1 V V1 := (K9.mono (fun a h => absurd h List.not_mem_nil) (by decide)).trans (J1.mono (fun a h => List.mem_append_left _ h) (by decide))
                  have KB : pbK LSn FSn S T2 V V1 := ⟨KA.1.trans (u2.mono (fun a h => List.mem_cons_of_mem _ (List.mem_append_right _ (List.mem_append_left _ h)))), o2, KA.2.2⟩
                  have KC : pbK LSn FSn S T3 V V3 := KB.trans (J3.mono (fun a h => by
                    simp only [LSd, List.mem_cons, List.not_mem_nil, or_false] at h
                    refine List.mem_append_right _ (List.mem_append_right _ ?_)
                    by_cases hq : a = 542 ∨ a = 543
                    · refine List.mem_append_left _ ?_
                      rcases hq with rfl | rfl <;> decide
                    · exact List.mem_append_right _ (mem_LDw.mpr (by omega))) (by decide))
                  have hx3 : ∀ {V4 : Nat → Value}, True := trivial
                  refine ⟨gh, kgh, hgh, ?_, V3, KC, ?_, ?_, ?_, ?_⟩
                  · rw [lx]
                    rfl
                  · exact (J3.2.2 111 (by decide)).trans ((J1.2.2 111 (by decide)).trans v92)
                  · obtain ⟨b1, gb, b2, b3⟩ := B1
                    exact ⟨(J3.2.2 110 (by decide)).trans b1, gb, t3 (u2.at b2 (by decide)) (by decide) (by decide) (by decide) (by decide) (by omega), b3⟩
                  · refine ⟨hi12, ver, loc, inp, out, ids, ix, seq, va_up iln (6 * i + j) (iln (6 * i + j) + psz (rsW Gp kn gh ty).length), val, oln, va_up sc (6 * i + j) gs3, so, ?_, fun q hq => ?_⟩
                    · refine ⟨⟨z3 h374 (by decide) (by decide) (by decide) (by omega), z3 h375 (by decide) (by decide) (by decide) (by omega), z3 h376 (by decide) (by decide) (by decide) (by omega), z3 h377 (by decide) (by decide) (by decide) (by omega)⟩, ⟨z3 h378 (by decide) (by decide) (by decide) (by omega), kid⟩, ⟨z3 h379 (by decide) (by decide) (by decide) (by omega), q453, z3 h454 (by decide) (by decide) (by decide) (by omega), z3 h528 (by decide) (by decide) (by decide) (by omega)⟩, ⟨z3 h380 (by decide) (by decide) (by decide) (by omega), z3 h455 (by decide) (by decide) (by decide) (by omega)⟩, fun r hr => ?_, fun r => ?_, fun r hr => z3 (hso r hr) (by omega) (by omega) (by omega) (by omega), kso, hix⟩
                      · by_cases h : r = 6 * i + j
                        · rw [h, va_up_self]
                          exact e3
                        · rw [va_up_ne _ _ h]
                          exact z3 (hsc r hr) (by omega) (by omega) (by omega) (by omega)
                      · by_cases h : r = 6 * i + j
                        · rw [h, va_up_self]
                          exact ks3
                        · rw [va_up_ne _ _ h]
                          exact ksc r
                    · by_cases h : q = i
                      · subst h
                        obtain ⟨eD, -, o6, hi6a, ho6⟩ := hA
                        rw [va_up_self]
                        refine ⟨?_, h6, o6, fun z hz => ?_, ho6⟩
                        · rw [rdI_push (b := 6 * q) (n := iln (6 * q + j) + psz (rsW Gp kn gh ty).length) (p := pushL (rsW Gp kn gh ty)) hb3, eD]
                        · by_cases h : z = j
                          · rw [h, va_up_self]
                            have := rsW_len Gp kn gh ty
                            omega
                          · rw [va_up_ne _ _ (by omega)]
                            exact hi6a z hz
                      · rw [va_up_ne _ _ h]
                        exact rdA_cg (A q hq) rfl rfl rfl rfl (fun r h1 h2 => ⟨fun _ _ => rfl, rfl, rfl, va_up_ne _ _ (by omega), rfl, rfl, va_up_ne _ _ (by omega), rfl⟩)
                  · have e9 : ∀ {a n : Nat}, (∃ g, kO g ∧ T2.2.2 a = some (kB n g)) → a ≠ 290 → a ≠ 542 → a ≠ 543 → a ≠ 453 → a ≠ 381 + (6 * i + j) → ∃ g, kO g ∧ T3.2.2 a = some (kB n g) := fun {a n} h h1 h2 h3 h4 h5 => by
                      obtain ⟨g, kg, e⟩ := h
                      exact ⟨g, kg, t3 e h1 h2 h3 h4 h5⟩
                    have nL : ∀ x ∈ 290 :: LSd (6 * i + j), x = 290 ∨ (381 ≤ x ∧ x ≤ 453) ∨ x = 542 ∨ x = 543 := fun x hx => by
                      simp only [LSd, List.mem_cons, List.not_mem_nil, or_false] at hx
                      omega
                    refine ⟨?_, ?_, ?_, ?_, e9 f52 (by decide) (by decide) (by decide) (by decide) (by omega), ?_, ?_, ?_, e9 sd2 (by decide) (by decide) (by decide) (by decide) (by omega), r542, r543⟩
                    · obtain ⟨g, kg, e⟩ := g529a
                      exact ⟨g, kg, t3 (u2.at e (by decide)) (by decide) (by decide) (by decide) (by decide) (by omega)⟩
                    · exact (P1.up u2 (by decide)).up J3.1 (fun x hx => by have := nL x hx; omega)
                    · obtain ⟨c, C1⟩ := C1
                      have J23 : pbK LSb [] T1 T2 V1 V1 := ⟨u2.mono (fun a h => List.mem_cons_of_mem _ h), o2, fun _ _ => rfl⟩
                      exact ⟨c, J3.ct (J23.ct C1 (by decide) (by decide)) (by refine ⟨fun hm => ?_, fun hm => ?_⟩ <;> (have := nL _ hm; omega)) (by decide)⟩
                    · exact M2.up J3.1 (fun x hx => by have := nL x hx; omega)
                    · exact ⟨gh, kgh, t3 (u2.at ms1 (by decide)) (by decide) (by decide) (by decide) (by decide) (by omega)⟩
                    · obtain ⟨X, b1, gb, b2, b3⟩ := Bx1
                      exact ⟨X, (J3.2.2 91 (by decide)).trans b1, gb, t3 (u2.at b2 (by decide)) (by decide) (by decide) (by decide) (by decide) (by omega), b3⟩
                    · exact cc2.up J3.1 (fun x hx => by have := nL x hx; omega)
                · exact absurd hc95 (by decide)
            · exact absurd hc54 (by decide)
