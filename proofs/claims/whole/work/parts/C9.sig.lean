/-! CURVE: signing -/
/-- what the key's number and the digest are hashed as -/
def wsI (n : Nat) (gh : Nat → Nat) : Nat → Nat := fun j => if j < 28 then 0 else if j < 32 then n / 2 ^ (8 * (31 - j)) % 256 else gh (j - 32)
def wsK (n : Nat) (gh : Nat → Nat) : Nat := beN (sha_ (wsI n gh) 64) 0 % nN
def wsL (r s ty : Nat) : List Nat := [48, (derB r ++ derB s).length] ++ derB r ++ derB s ++ [ty]
/-- the numbers of a signature -/
def wsN (n : Nat) (gh : Nat → Nat) (x s : Nat) : Prop := dvP pP (kG (wsK n gh)).1 (mM (kG (wsK n gh)).2.2 (kG (wsK n gh)).2.2) x ∧ dvP nN ((beN gh 0 % nN + x % nN * n % nN) % nN) (wsK n gh) s
theorem ws_mod {v : Nat} (h : v < 2 ^ 256) : (if v < nN then v else v - nN) = v % nN := by
  have := nN_big
  split
  · next h4 => exact (Nat.mod_eq_of_lt h4).symm
  · next h4 => rw [Nat.mod_eq_sub_mod (by omega), Nat.mod_eq_of_lt (by omega)]
set_option maxRecDepth 100000 in
set_option maxHeartbeats 1600000 in
theorem c_cv_writeSig {l : Launch} {G : ks_G} {d : Nat} {S : ks_S} {n a b N ty : Nat} {gh : Nat → Nat} {ob : Option (List Nat)} (hI : cuI S) (hh : hsO S) (hK : ks_stOK S) (h28 : S.2.2 28 = some (kB 32 gh)) (kgh : kO gh) (hB : bfS S b a N ob) (hN : N < 2 ^ 20) (hm : 100 ≤ N) (hn : n < 2 ^ 31) (hty : ty < 256) (hb9 : b < 7 ∨ 28 < b) (ha9 : a < 7 ∨ 28 < a) (hab : a < 2 ^ 20 ∧ b < 2 ^ 20) : ks_P l G yX3_writeSignature mX3_writeSignature (d + 5) [.ref 14, .int (nI n), .int (nI ty), .ref 28, .ref 7, .ref b] S (fun z S' => z = none ∧ ks_up S S' [16, 18, 19, 9, 8, 10, 11, a, b] ∧ cuI S' ∧ hsO S' ∧ ∃ x s, wsN n gh x s ∧ bfS S' b a N (some (wsL (x % nN) s ty))) := by
  obtain ⟨ir, R, Q, ⟨hC, hQ, rw_, hrw, hW⟩, hR⟩ := hI
  have p2 := pP_lt
  have n2 := nN_lt
  have hN31 : N < 2 ^ 31 := by omega
  refine ks_of (by decide) rfl rfl (Nat.le_of_ble_eq_true rfl) ?_
  show ks_X l G mX3_writeSignature (d + 5) 0 [(0, .ref 14), (1, .int (nI n)), (2, .int (nI ty)), (3, .ref 28), (4, .ref 7), (5, .ref b)] [] S _
  refine ks_aload_n dX3_writeSignature_0 rfl rfl ?_
  refine ks_getf (T := TX3) (kf := 2) kx_537 rfl in_X3 cl_X3 (by decide) hC.1 rfl dX3_writeSignature_1 rfl ?_
  refine ks_iconst (x := nI 0) dX3_writeSignature_4 (by decide) rfl ?_
  refine ks_bipush (x := nI 28) dX3_writeSignature_5 (by decide) rfl ?_
  refine ks_iconst (x := nI 0) dX3_writeSignature_7 (by decide) rfl ?_
  refine ks_callS (n := 4) (M' := mJ7_fill_eb02e) (c_fillBr (d := d + 3) (i := 0) (j := 28) hW (by decide) (by decide) (by decide)) kx_1362 kx_898 kx_6 kx_899 (by decide +kernel) rfl (by decide) (Nat.le_of_ble_eq_true rfl) rfl dX3_writeSignature_8 rfl (fun z0 T0 y0 => ?_)
  obtain ⟨rfl, hT0⟩ := y0
  rw [show ks_by (nI 0) = 0 from by decide] at hT0
  subst hT0
  refine ks_iconst (x := nI 0) dX3_writeSignature_11 (by decide) rfl ?_
  refine ks_istore dX3_writeSignature_12 (by decide) rfl ?_
  refine ks_sub [(6, _), (0, _), (1, _), (2, _), (3, _), (4, _), (5, _)] rfl ?_
  refine ks_iload dX3_writeSignature_14 rfl rfl ?_
  refine ks_iconst (x := nI 4) dX3_writeSignature_16 (by decide) rfl ?_
  refine ks_icmp_geN (tgt := 47) (by decide) (by decide) dX3_writeSignature_17 (by decide) rfl (fun h => absurd h (by decide)) (fun _ => ?_)
  refine ks_aload_n dX3_writeSignature_20 rfl rfl ?_
  refine ks_getf (T := TX3) (kf := 2) kx_537 rfl in_X3 cl_X3 (by decide) ((ks_set_ne _ _ (by decide)).trans hC.1) rfl dX3_writeSignature_21 rfl ?_
  refine ks_bipush (x := nI 28) dX3_writeSignature_24 (by decide) rfl ?_
  refine ks_iload dX3_writeSignature_26 rfl rfl ?_
  refine ks_addN dX3_writeSignature_28 rfl ?_
  refine ks_ti (y := nI 28) rfl ?_
  refine ks_iload_n dX3_writeSignature_29 rfl rfl ?_
  refine ks_bipush (x := nI 24) dX3_writeSignature_30 (by decide) rfl ?_
  refine ks_bipush (x := nI 8) dX3_writeSignature_32 (by decide) rfl ?_
  refine ks_iload dX3_writeSignature_34 rfl rfl ?_
  refine ks_mulN dX3_writeSignature_36 rfl ?_
  refine ks_ti (y := nI 0) rfl ?_
  refine ks_subN (by omega) dX3_writeSignature_37 rfl ?_
  refine ks_ushrN (k := 24 - 0) (s_u _ (by omega)) (by omega) dX3_writeSignature_38 rfl ?_
  refine ks_i2b dX3_writeSignature_39 rfl ?_
  refine ks_bastB (i := 28) (c := (n / 2 ^ (24 - 0)) % 256) (ks_set_same _ _ _) rfl (by decide) (by decide) ((ks_by_i8 _).trans (ks_by_nI _)) dX3_writeSignature_40 rfl ?_
  refine ks_incN (c := 1) (e := 1) dX3_writeSignature_41 rfl (by decide) rfl (by decide) rfl ?_
  refine ks_sub [(6, _), (0, _), (1, _), (2, _), (3, _), (4, _), (5, _)] rfl ?_
  refine ks_goto (tgt := 14) dX3_writeSignature_44 (by decide) ?_
  refine ks_iload dX3_writeSignature_14 rfl rfl ?_
  refine ks_iconst (x := nI 4) dX3_writeSignature_16 (by decide) rfl ?_
  refine ks_icmp_geN (tgt := 47) (by decide) (by decide) dX3_writeSignature_17 (by decide) rfl (fun h => absurd h (by decide)) (fun _ => ?_)
  refine ks_aload_n dX3_writeSignature_20 rfl rfl ?_
  refine ks_getf (T := TX3) (kf := 2) kx_537 rfl in_X3 cl_X3 (by decide) ((ks_set_ne _ _ (by decide)).trans ((ks_set_ne _ _ (by decide)).trans hC.1)) rfl dX3_writeSignature_21 rfl ?_
  refine ks_bipush (x := nI 28) dX3_writeSignature_24 (by decide) rfl ?_
  refine ks_iload dX3_writeSignature_26 rfl rfl ?_
  refine ks_addN dX3_writeSignature_28 rfl ?_
  refine ks_ti (y := nI 29) rfl ?_
  refine ks_iload_n dX3_writeSignature_29 rfl rfl ?_
  refine ks_bipush (x := nI 24) dX3_writeSignature_30 (by decide) rfl ?_
  refine ks_bipush (x := nI 8) dX3_writeSignature_32 (by decide) rfl ?_
  refine ks_iload dX3_writeSignature_34 rfl rfl ?_
  refine ks_mulN dX3_writeSignature_36 rfl ?_
  refine ks_ti (y := nI 8) rfl ?_
  refine ks_subN (by omega) dX3_writeSignature_37 rfl ?_
  refine ks_ushrN (k := 24 - 8) (s_u _ (by omega)) (by omega) dX3_writeSignature_38 rfl ?_
  refine ks_i2b dX3_writeSignature_39 rfl ?_
  refine ks_bastB (i := 29) (c := (n / 2 ^ (24 - 8)) % 256) (ks_set_same _ _ _) rfl (by decide) (by decide) ((ks_by_i8 _).trans (ks_by_nI _)) dX3_writeSignature_40 rfl ?_
  refine ks_incN (c := 1) (e := 2) dX3_writeSignature_41 rfl (by decide) rfl (by decide) rfl ?_
  refine ks_sub [(6, _), (0, _), (1, _), (2, _), (3, _), (4, _), (5, _)] rfl ?_
  refine ks_goto (tgt := 14) dX3_writeSignature_44 (by decide) ?_
  refine ks_iload dX3_writeSignature_14 rfl rfl ?_
  refine ks_iconst (x := nI 4) dX3_writeSignature_16 (by decide) rfl ?_
  refine ks_icmp_geN (tgt := 47) (by decide) (by decide) dX3_writeSignature_17 (by decide) rfl (fun h => absurd h (by decide)) (fun _ => ?_)
  refine ks_aload_n dX3_writeSignature_20 rfl rfl ?_
  refine ks_getf (T := TX3) (kf := 2) kx_537 rfl in_X3 cl_X3 (by decide) ((ks_set_ne _ _ (by decide)).trans ((ks_set_ne _ _ (by decide)).trans ((ks_set_ne _ _ (by decide)).trans hC.1))) rfl dX3_writeSignature_21 rfl ?_
  refine ks_bipush (x := nI 28) dX3_writeSignature_24 (by decide) rfl ?_
  refine ks_iload dX3_writeSignature_26 rfl rfl ?_
  refine ks_addN dX3_writeSignature_28 rfl ?_
  refine ks_ti (y := nI 30) rfl ?_
  refine ks_iload_n dX3_writeSignature_29 rfl rfl ?_
  refine ks_bipush (x := nI 24) dX3_writeSignature_30 (by decide) rfl ?_
  refine ks_bipush (x := nI 8) dX3_writeSignature_32 (by decide) rfl ?_
  refine ks_iload dX3_writeSignature_34 rfl rfl ?_
  refine ks_mulN dX3_writeSignature_36 rfl ?_
  refine ks_ti (y := nI 16) rfl ?_
  refine ks_subN (by omega) dX3_writeSignature_37 rfl ?_
  refine ks_ushrN (k := 24 - 16) (s_u _ (by omega)) (by omega) dX3_writeSignature_38 rfl ?_
  refine ks_i2b dX3_writeSignature_39 rfl ?_
  refine ks_bastB (i := 30) (c := (n / 2 ^ (24 - 16)) % 256) (ks_set_same _ _ _) rfl (by decide) (by decide) ((ks_by_i8 _).trans (ks_by_nI _)) dX3_writeSignature_40 rfl ?_
  refine ks_incN (c := 1) (e := 3) dX3_writeSignature_41 rfl (by decide) rfl (by decide) rfl ?_
  refine ks_sub [(6, _), (0, _), (1, _), (2, _), (3, _), (4, _), (5, _)] rfl ?_
  refine ks_goto (tgt := 14) dX3_writeSignature_44 (by decide) ?_
  refine ks_iload dX3_writeSignature_14 rfl rfl ?_
  refine ks_iconst (x := nI 4) dX3_writeSignature_16 (by decide) rfl ?_
  refine ks_icmp_geN (tgt := 47) (by decide) (by decide) dX3_writeSignature_17 (by decide) rfl (fun h => absurd h (by decide)) (fun _ => ?_)
  refine ks_aload_n dX3_writeSignature_20 rfl rfl ?_
  refine ks_getf (T := TX3) (kf := 2) kx_537 rfl in_X3 cl_X3 (by decide) ((ks_set_ne _ _ (by decide)).trans ((ks_set_ne _ _ (by decide)).trans ((ks_set_ne _ _ (by decide)).trans ((ks_set_ne _ _ (by decide)).trans hC.1)))) rfl dX3_writeSignature_21 rfl ?_
  refine ks_bipush (x := nI 28) dX3_writeSignature_24 (by decide) rfl ?_
  refine ks_iload dX3_writeSignature_26 rfl rfl ?_
  refine ks_addN dX3_writeSignature_28 rfl ?_
  refine ks_ti (y := nI 31) rfl ?_
  refine ks_iload_n dX3_writeSignature_29 rfl rfl ?_
  refine ks_bipush (x := nI 24) dX3_writeSignature_30 (by decide) rfl ?_
  refine ks_bipush (x := nI 8) dX3_writeSignature_32 (by decide) rfl ?_
  refine ks_iload dX3_writeSignature_34 rfl rfl ?_
  refine ks_mulN dX3_writeSignature_36 rfl ?_
  refine ks_ti (y := nI 24) rfl ?_
  refine ks_subN (by omega) dX3_writeSignature_37 rfl ?_
  refine ks_ushrN (k := 24 - 24) (s_u _ (by omega)) (by omega) dX3_writeSignature_38 rfl ?_
  refine ks_i2b dX3_writeSignature_39 rfl ?_
  refine ks_bastB (i := 31) (c := (n / 2 ^ (24 - 24)) % 256) (ks_set_same _ _ _) rfl (by decide) (by decide) ((ks_by_i8 _).trans (ks_by_nI _)) dX3_writeSignature_40 rfl ?_
  refine ks_incN (c := 1) (e := 4) dX3_writeSignature_41 rfl (by decide) rfl (by decide) rfl ?_
  refine ks_sub [(6, _), (0, _), (1, _), (2, _), (3, _), (4, _), (5, _)] rfl ?_
  refine ks_goto (tgt := 14) dX3_writeSignature_44 (by decide) ?_
  refine ks_iload dX3_writeSignature_14 rfl rfl ?_
  refine ks_iconst (x := nI 4) dX3_writeSignature_16 (by decide) rfl ?_
  refine ks_icmp_geN (tgt := 47) (by decide) (by decide) dX3_writeSignature_17 (by decide) rfl (fun _ => ?_) (fun h => absurd h (by decide))
  refine ks_aload_n dX3_writeSignature_47 rfl rfl ?_
  refine ks_iconst (x := nI 0) dX3_writeSignature_48 (by decide) rfl ?_
  refine ks_aload_n dX3_writeSignature_49 rfl rfl ?_
  refine ks_getf (T := TX3) (kf := 2) kx_537 rfl in_X3 cl_X3 (by decide) ((ks_set_ne _ _ (by decide)).trans ((ks_set_ne _ _ (by decide)).trans ((ks_set_ne _ _ (by decide)).trans ((ks_set_ne _ _ (by decide)).trans ((ks_set_ne _ _ (by decide)).trans hC.1))))) rfl dX3_writeSignature_50 rfl ?_
  refine ks_bipush (x := nI 32) dX3_writeSignature_53 (by decide) rfl ?_
  refine ks_bipush (x := nI 32) dX3_writeSignature_55 (by decide) rfl ?_
  refine ks_copyB (n := 32) (dp := 32) (sp := 0) ((ks_set_ne _ _ (by decide)).trans ((ks_set_ne _ _ (by decide)).trans ((ks_set_ne _ _ (by decide)).trans ((ks_set_ne _ _ (by decide)).trans ((ks_set_ne _ _ (by decide)).trans h28))))) (ks_set_same _ _ _) rfl rfl rfl (by omega) (by omega) (by decide) (by decide) kx_1363 kx_275 kx_274 kx_17 (by omega) (Nat.le_of_ble_eq_true rfl) dX3_writeSignature_57 rfl ?_
  obtain ⟨S3, hS3⟩ : ∃ S3 : ks_S, S3 = _ := ⟨_, rfl⟩
  refine ks_tS (S' := S3) hS3.symm ?_
  have u0 : ks_up S S3 [19] := by
    rw [hS3]
    exact (((((ks_up_set _ _ (List.mem_singleton.mpr rfl)).trans (ks_up_set _ _ (List.mem_singleton.mpr rfl))).trans (ks_up_set _ _ (List.mem_singleton.mpr rfl))).trans (ks_up_set _ _ (List.mem_singleton.mpr rfl))).trans (ks_up_set _ _ (List.mem_singleton.mpr rfl))).trans (ks_up_set _ _ (List.mem_singleton.mpr rfl))
  obtain ⟨F, hF⟩ : ∃ F, F = (va_cpy gh (va_up (va_up (va_up (va_up (ks_fill rw_ 0 28 0) 28 ((n / 2 ^ (24 - 0)) % 256)) 29 ((n / 2 ^ (24 - 8)) % 256)) 30 ((n / 2 ^ (24 - 16)) % 256)) 31 ((n / 2 ^ (24 - 24)) % 256)) 0 32 32) := ⟨_, rfl⟩
  have W0 : S3.2.2 19 = some (kB 64 F) := by rw [hS3, hF]; exact ks_set_same _ _ _
  clear hS3
  have gF : ∀ j, j < 64 → F j = wsI n gh j := by
    intro j hj
    rw [hF]
    unfold va_cpy wsI
    by_cases c1 : j < 32
    · rw [if_neg (by omega)]
      by_cases c2 : j < 28
      · rw [if_pos c2, va_up_ne _ _ (by omega), va_up_ne _ _ (by omega), va_up_ne _ _ (by omega), va_up_ne _ _ (by omega)]
        unfold ks_fill
        rw [if_pos ⟨Nat.zero_le _, c2⟩]
      · rw [if_neg c2, if_pos c1]
        have h4 : j = 28 ∨ j = 29 ∨ j = 30 ∨ j = 31 := by omega
        rcases h4 with rfl | rfl | rfl | rfl <;> rfl
    · rw [if_pos (by omega), if_neg (by omega), if_neg c1, Nat.zero_add]
  have kF : kO F := by
    rw [hF]
    exact kO_cpy kgh (kO_up (kO_up (kO_up (kO_up (kO_fill hrw 0 28 (by decide)) (Nat.mod_lt _ (by decide))) (Nat.mod_lt _ (by decide))) (Nat.mod_lt _ (by decide))) (Nat.mod_lt _ (by decide))) _ _ _
  clear hF
  have C0 : cvX S3 ir R := ⟨u0.at hC.1 (by decide), hC.2.1.up u0 (by decide) (by decide), hC.2.2⟩
  have Q0 := hQ.up u0 (by decide) (by decide)
  have hh0 := hh.up u0 (by decide)
  have K0 := u0.st hK (by unfold ks_B; decide)
  have e28 := u0.at h28 (by decide)
  have B0 := hB.up u0 (by simp only [List.mem_cons, List.not_mem_nil, or_false]; omega) (by simp only [List.mem_cons, List.not_mem_nil, or_false]; omega)
  refine ks_aload dX3_writeSignature_60 rfl rfl ?_
  refine ks_aload_n dX3_writeSignature_62 rfl rfl ?_
  refine ks_getf (T := TX3) (kf := 2) kx_537 rfl in_X3 cl_X3 (by decide) C0.1 rfl dX3_writeSignature_63 rfl ?_
  refine ks_iconst (x := nI 0) dX3_writeSignature_66 (by decide) rfl ?_
  refine ks_bipush (x := nI 64) dX3_writeSignature_67 (by decide) rfl ?_
  refine ks_aload_n dX3_writeSignature_69 rfl rfl ?_
  refine ks_getf (T := TX3) (kf := 2) kx_537 rfl in_X3 cl_X3 (by decide) C0.1 rfl dX3_writeSignature_70 rfl ?_
  refine ks_iconst (x := nI 0) dX3_writeSignature_73 (by decide) rfl ?_
  refine ks_callV (n := 5) (M' := mX6_sha) (c_shaH (d := d + 1) hh0 hs_neO W0 kF (i := 0) (n := 64) (by decide) (by decide) W0 kF (oa := 0) (by decide) (by decide) K0 (by decide) (by decide)) hh0.1 cl_X6 rfl kx_1364 kx_881 kx_882 kx_3 kx_883 (by decide +kernel) rfl (by decide) (Nat.le_of_ble_eq_true rfl) rfl dX3_writeSignature_74 rfl (fun z1 T1 y1 => ?_)
  obtain ⟨rfl, u1, hh1, W1⟩ := y1
  have eK : beN (ks_pt (sha_ (fun k => F (0 + k)) 64) F 0 32) 0 = beN (sha_ (wsI n gh) 64) 0 := beN_c (fun k hk => by
    unfold ks_pt
    rw [if_pos (by omega), sha_congr (m' := wsI n gh) (fun j hj => by rw [Nat.zero_add]; exact gF j hj), Nat.sub_zero])
  have k1 : kO (ks_pt (sha_ (fun k => F (0 + k)) 64) F 0 32) := kO_pt (kO_sha _ _) kF 0 32
  generalize ks_pt (sha_ (fun k => F (0 + k)) 64) F 0 32 = F1 at *
  have C1 : cvX T1 ir R := ⟨u1.at C0.1 (by decide), C0.2.1.up u1 (by decide) (by decide), C0.2.2⟩
  have Q1 := Q0.up u1 (by decide) (by decide)
  have e28a := u1.at e28 (by decide)
  have v0 : ks_up S T1 [19, 9, 8, 10, 11] := (u0.mono (by decide)).trans (u1.mono (by decide))
  refine ks_aload_n dX3_writeSignature_77 rfl rfl ?_
  refine ks_getf (T := TX3) (kf := 1) kx_536 rfl in_X3 cl_X3 (by decide) C1.1 rfl dX3_writeSignature_78 rfl ?_
  refine ks_bipush (x := nI 27) dX3_writeSignature_81 (by decide) rfl ?_
  refine ks_aload_n dX3_writeSignature_83 rfl rfl ?_
  refine ks_getf (T := TX3) (kf := 2) kx_537 rfl in_X3 cl_X3 (by decide) C1.1 rfl dX3_writeSignature_84 rfl ?_
  refine ks_iconst (x := nI 0) dX3_writeSignature_87 (by decide) rfl ?_
  refine ks_callV (n := 3) (M' := mX5_load) (c_fd_load (d := d + 4) (o := 3) (i := 0) Q1.1 (by decide) W1 k1 (by decide) (by decide) (by decide)) Q1.1.1 cl_X5 rfl kx_1365 kx_1366 kx_1367 kx_5 kx_1368 (by decide +kernel) rfl (by decide) (Nat.le_of_ble_eq_true rfl) rfl dX3_writeSignature_88 rfl (fun z2 T2 y2 => ?_)
  obtain ⟨rfl, u2, f2⟩ := y2
  rw [eK] at f2
  have hk256 : beN (sha_ (wsI n gh) 64) 0 < 2 ^ 256 := beN_lt (kO_sha _ _) 0
  have Q2 : scX T2 (va_up Q 3 (beN (sha_ (wsI n gh) 64) 0)) := ⟨f2, (va_up_ne _ _ (by decide)).trans Q1.2⟩
  have C2 : cvX T2 ir R := ⟨u2.at C1.1 (by decide), C1.2.1.up u2 (by decide) (by decide), C1.2.2⟩
  have W2 := u2.at W1 (by decide)
  refine ks_aload_n dX3_writeSignature_91 rfl rfl ?_
  refine ks_getf (T := TX3) (kf := 1) kx_536 rfl in_X3 cl_X3 (by decide) C2.1 rfl dX3_writeSignature_92 rfl ?_
  refine ks_bipush (x := nI 27) dX3_writeSignature_95 (by decide) rfl ?_
  refine ks_callV (n := 1) (M' := mX5_reduce) (c_fd_reduce (d := d + 3) (x := 3) f2 (by decide) (by decide)) Q2.1.1 cl_X5 rfl kx_1370 kx_1371 kx_1372 kx_5 kx_1373 (by decide +kernel) rfl (by decide) (Nat.le_of_ble_eq_true rfl) rfl dX3_writeSignature_97 rfl (fun z3 T3 y3 => ?_)
  obtain ⟨rfl, u3, f3⟩ := y3
  rw [va_up_self, Q2.2, ws_mod hk256, va_up_up] at f3
  obtain ⟨K, hKd⟩ : ∃ K, wsK n gh = K := ⟨_, rfl⟩
  rw [show beN (sha_ (wsI n gh) 64) 0 % nN = K from hKd] at f3
  have hKn : K < nN := by rw [← hKd]; exact Nat.mod_lt _ (by decide)
  have Q3 : scX T3 (va_up Q 3 K) := ⟨f3, (va_up_ne _ _ (by decide)).trans hQ.2⟩
  have q3 : va_up Q 3 K 3 = K := va_up_self _ _ _
  have C3 : cvX T3 ir R := ⟨u3.at C2.1 (by decide), C2.2.1.up u3 (by decide) (by decide), C2.2.2⟩
  have W3 := u3.at W2 (by decide)
  generalize va_up Q 3 K = Q' at *
  refine ks_aload_n dX3_writeSignature_100 rfl rfl ?_
  refine ks_iconst (x := nI 0) dX3_writeSignature_101 (by decide) rfl ?_
  refine ks_ti (y := ks_bo false) rfl ?_
  refine ks_callV (n := 1) (M' := mX3_sum) (c_cv_sum (d := d + 1) (wk := false) C3 Q3 hR.2.1 (fun i hi => by rw [hR.2.2.1 i hi]; exact baT_L i hi) (fun h => by cases h)) C3.1 cl_X3 rfl kx_1182 kx_1183 kx_1184 kx_4 kx_1185 (by decide +kernel) rfl (by decide) (Nat.le_of_ble_eq_true rfl) rfl dX3_writeSignature_102 rfl (fun z4 T4 y4 => ?_)
  obtain ⟨rfl, u4, R4, C4, hP, hj4, hL4⟩ := y4
  rw [q3, if_neg (by decide)] at hP
  have kP := kG_of (B := fun i => ptR R (55 + 3 * i)) (K := fun i => ptR R (10 + 3 * i)) (u := K) (x := R 7) (y := R 8) hR.2.2.1
  rw [← hP] at kP
  clear hP
  have R4c : cuR R4 := hR.of (fun j h1 h2 _ => hj4 j h1 h2) hL4
  have Q4 := Q3.up u4 (by decide) (by decide)
  have W4 := u4.at W3 (by decide)
  have b7 : R4 7 < pP := hL4.1
  have b9 : R4 9 < pP := hL4.2.2
  refine ks_aload_n dX3_writeSignature_105 rfl rfl ?_
  refine ks_iconst (x := nI 0) dX3_writeSignature_106 (by decide) rfl ?_
  refine ks_bipush (x := nI 81) dX3_writeSignature_107 (by decide) rfl ?_
  refine ks_bipush (x := nI 81) dX3_writeSignature_109 (by decide) rfl ?_
  refine ks_callV (n := 3) (M' := mX3_multiply) (c_cvm (d := d + 4) (o := 0) (x := 9) (y := 9) C4 (by decide) (by decide) (by decide) (by omega) (by omega)) C4.1 cl_X3 rfl kx_502 kx_504 kxp_2 kx_4 kx_505 (by decide +kernel) rfl (by decide) (Nat.le_of_ble_eq_true rfl) rfl dX3_writeSignature_111 rfl (fun z5 T5 y5 => ?_)
  obtain ⟨rfl, u5, C5⟩ := y5
  have m5 := mM_lt (R4 9) (R4 9)
  have s5 : va_up R4 0 (mM (R4 9) (R4 9)) 0 = mM (R4 9) (R4 9) := va_up_self _ _ _
  have j5 : ∀ j, 6 ≤ j → j ≤ 100 → va_up R4 0 (mM (R4 9) (R4 9)) j = R4 j := fun j h _ => va_up_ne _ _ (by omega)
  generalize va_up R4 0 (mM (R4 9) (R4 9)) = F5 at *
  have Q5 := Q4.up u5 (by decide) (by decide)
  have W5 := u5.at W4 (by decide)
  refine ks_aload_n dX3_writeSignature_114 rfl rfl ?_
  refine ks_getf (T := TX3) (kf := 0) kx_535 rfl in_X3 cl_X3 (by decide) C5.1 rfl dX3_writeSignature_115 rfl ?_
  refine ks_iconst (x := nI 0) dX3_writeSignature_118 (by decide) rfl ?_
  refine ks_bipush (x := nI 63) dX3_writeSignature_119 (by decide) rfl ?_
  refine ks_iconst (x := nI 0) dX3_writeSignature_121 (by decide) rfl ?_
  refine ks_callV (n := 3) (M' := mX5_divide) (c_fd_divide (d := d + 1) (o := 0) (x := 7) (y := 0) C5.2.1 (by decide) (by decide) (by decide) (by rw [C5.2.2]; exact p2) (by rw [C5.2.2]; decide) (by rw [C5.2.2, j5 7 (by decide) (by decide)]; exact b7) (by rw [C5.2.2, s5]; exact m5)) C5.2.1.1 cl_X5 rfl kx_1190 kx_1191 kx_1192 kx_5 kx_1193 (by decide +kernel) rfl (by decide) (Nat.le_of_ble_eq_true rfl) rfl dX3_writeSignature_122 rfl (fun z6 T6 y6 => ?_)
  obtain ⟨rfl, u6, F6, v6, f6, k6, e6, p6⟩ := y6
  rw [C5.2.2, j5 7 (by decide) (by decide), s5] at p6
  have C6 := C5.of u6 f6 (k6 100 (by decide) (by decide))
  have j6 : ∀ j, 6 ≤ j → j ≤ 100 → F6 j = R4 j := fun j h h2 => (k6 j h2 (by omega)).trans (j5 j h h2)
  have R6c : cuR F6 := R4c.of (fun j h1 _ h2 => j6 j h1 (by omega)) (by unfold ptR; rw [j6 7 (by decide) (by decide), j6 8 (by decide) (by decide), j6 9 (by decide) (by decide)]; exact hL4)
  have px : dvP pP (kG K).1 (mM (kG K).2.2 (kG K).2.2) v6 := by
    rcases kP with h | ⟨h1, h2⟩
    · rw [← h]; exact p6
    · have h1 : R4 9 = 0 := h1
      rw [h1, show mM 0 0 = 0 from rfl, dvP_z] at p6
      rw [h2, show mM 0 0 = 0 from rfl, dvP_z]
      exact p6
  have v6b : v6 < 2 ^ 256 := Nat.lt_trans p6.1 p2
  clear p6 kP
  have Q6 := Q5.up u6 (by decide) (by decide)
  have W6 := u6.at W5 (by decide)
  refine ks_aload_n dX3_writeSignature_125 rfl rfl ?_
  refine ks_getf (T := TX3) (kf := 0) kx_535 rfl in_X3 cl_X3 (by decide) C6.1 rfl dX3_writeSignature_126 rfl ?_
  refine ks_iconst (x := nI 0) dX3_writeSignature_129 (by decide) rfl ?_
  refine ks_aload_n dX3_writeSignature_130 rfl rfl ?_
  refine ks_getf (T := TX3) (kf := 2) kx_537 rfl in_X3 cl_X3 (by decide) C6.1 rfl dX3_writeSignature_131 rfl ?_
  refine ks_iconst (x := nI 0) dX3_writeSignature_134 (by decide) rfl ?_
  refine ks_callV (n := 3) (M' := mX5_store) (c_fd_store (d := d + 3) (x := 0) (i := 0) C6.2.1 (by decide) W6 (by decide) (by decide) (by decide) (by decide)) C6.2.1.1 cl_X5 rfl kx_1210 kx_1211 kx_1212 kx_5 kx_1213 (by decide +kernel) rfl (by decide) (Nat.le_of_ble_eq_true rfl) rfl dX3_writeSignature_135 rfl (fun z7 T7 y7 => ?_)
  obtain ⟨rfl, u7, W7⟩ := y7
  rw [e6] at W7
  have C7 : cvX T7 ir F6 := ⟨u7.at C6.1 (by decide), C6.2.1.up u7 (by decide) (by decide), C6.2.2⟩
  have k7 := kO_st (V := v6) k1 0 32
  have e7 := beN_st v6b F1 0
  generalize stB v6 F1 0 32 = F7 at *
  have Q7 := Q6.up u7 (by decide) (by decide)
  refine ks_aload_n dX3_writeSignature_138 rfl rfl ?_
  refine ks_getf (T := TX3) (kf := 1) kx_536 rfl in_X3 cl_X3 (by decide) C7.1 rfl dX3_writeSignature_139 rfl ?_
  refine ks_iconst (x := nI 0) dX3_writeSignature_142 (by decide) rfl ?_
  refine ks_aload_n dX3_writeSignature_143 rfl rfl ?_
  refine ks_getf (T := TX3) (kf := 2) kx_537 rfl in_X3 cl_X3 (by decide) C7.1 rfl dX3_writeSignature_144 rfl ?_
  refine ks_iconst (x := nI 0) dX3_writeSignature_147 (by decide) rfl ?_
  refine ks_callV (n := 3) (M' := mX5_load) (c_fd_load (d := d + 4) (o := 0) (i := 0) Q7.1 (by decide) W7 k7 (by decide) (by decide) (by decide)) Q7.1.1 cl_X5 rfl kx_1365 kx_1366 kx_1367 kx_5 kx_1368 (by decide +kernel) rfl (by decide) (Nat.le_of_ble_eq_true rfl) rfl dX3_writeSignature_148 rfl (fun z8 T8 y8 => ?_)
  obtain ⟨rfl, u8, f8⟩ := y8
  rw [e7] at f8
  have Q8 : scX T8 (va_up Q' 0 v6) := ⟨f8, (va_up_ne _ _ (by decide)).trans Q7.2⟩
  have O8 := u8.at C7.1 (by decide)
  have W8 := u8.at W7 (by decide)
  refine ks_aload_n dX3_writeSignature_151 rfl rfl ?_
  refine ks_getf (T := TX3) (kf := 1) kx_536 rfl in_X3 cl_X3 (by decide) O8 rfl dX3_writeSignature_152 rfl ?_
  refine ks_iconst (x := nI 0) dX3_writeSignature_155 (by decide) rfl ?_
  refine ks_callV (n := 1) (M' := mX5_reduce) (c_fd_reduce (d := d + 3) (x := 0) f8 (by decide) (by decide)) Q8.1.1 cl_X5 rfl kx_1370 kx_1371 kx_1372 kx_5 kx_1373 (by decide +kernel) rfl (by decide) (Nat.le_of_ble_eq_true rfl) rfl dX3_writeSignature_156 rfl (fun z9 T9 y9 => ?_)
  obtain ⟨rfl, u9, f9⟩ := y9
  rw [va_up_self, Q8.2, ws_mod v6b, va_up_up] at f9
  have Q9 : scX T9 (va_up Q' 0 (v6 % nN)) := ⟨f9, (va_up_ne _ _ (by decide)).trans Q3.2⟩
  have O9 := u9.at O8 (by decide)
  have W9 := u9.at W8 (by decide)
  have uA : ks_up T1 T9 [16, 18, 19] := (u2.mono (by decide)).trans ((u3.mono (by decide)).trans ((u4.mono (by decide)).trans ((u5.mono (by decide)).trans ((u6.mono (by decide)).trans ((u7.mono (by decide)).trans ((u8.mono (by decide)).trans (u9.mono (by decide))))))))
  have e28b := uA.at e28a (by decide)
  refine ks_aload_n dX3_writeSignature_159 rfl rfl ?_
  refine ks_getf (T := TX3) (kf := 1) kx_536 rfl in_X3 cl_X3 (by decide) O9 rfl dX3_writeSignature_160 rfl ?_
  refine ks_bipush (x := nI 9) dX3_writeSignature_163 (by decide) rfl ?_
  refine ks_aload_n dX3_writeSignature_165 rfl rfl ?_
  refine ks_iconst (x := nI 0) dX3_writeSignature_166 (by decide) rfl ?_
  refine ks_callV (n := 3) (M' := mX5_load) (c_fd_load (d := d + 4) (o := 1) (i := 0) Q9.1 (by decide) e28b kgh (by decide) (by decide) (by decide)) Q9.1.1 cl_X5 rfl kx_1365 kx_1366 kx_1367 kx_5 kx_1368 (by decide +kernel) rfl (by decide) (Nat.le_of_ble_eq_true rfl) rfl dX3_writeSignature_167 rfl (fun z10 T10 y10 => ?_)
  obtain ⟨rfl, u10, f10⟩ := y10
  have hg256 := beN_lt kgh 0
  have Q10 : scX T10 (va_up (va_up Q' 0 (v6 % nN)) 1 (beN gh 0)) := ⟨f10, (va_up_ne _ _ (by decide)).trans Q9.2⟩
  have O10 := u10.at O9 (by decide)
  refine ks_aload_n dX3_writeSignature_170 rfl rfl ?_
  refine ks_getf (T := TX3) (kf := 1) kx_536 rfl in_X3 cl_X3 (by decide) O10 rfl dX3_writeSignature_171 rfl ?_
  refine ks_bipush (x := nI 9) dX3_writeSignature_174 (by decide) rfl ?_
  refine ks_callV (n := 1) (M' := mX5_reduce) (c_fd_reduce (d := d + 3) (x := 1) f10 (by decide) (by decide)) Q10.1.1 cl_X5 rfl kx_1370 kx_1371 kx_1372 kx_5 kx_1373 (by decide +kernel) rfl (by decide) (Nat.le_of_ble_eq_true rfl) rfl dX3_writeSignature_176 rfl (fun z11 T11 y11 => ?_)
  obtain ⟨rfl, u11, f11⟩ := y11
  rw [va_up_self, Q10.2, ws_mod hg256, va_up_up] at f11
  have Q11 : scX T11 (va_up (va_up Q' 0 (v6 % nN)) 1 (beN gh 0 % nN)) := ⟨f11, (va_up_ne _ _ (by decide)).trans Q9.2⟩
  have a0 : va_up (va_up Q' 0 (v6 % nN)) 1 (beN gh 0 % nN) 0 = v6 % nN := (va_up_ne _ _ (by decide)).trans (va_up_self _ _ _)
  have a1 : va_up (va_up Q' 0 (v6 % nN)) 1 (beN gh 0 % nN) 1 = beN gh 0 % nN := va_up_self _ _ _
  have a3 : va_up (va_up Q' 0 (v6 % nN)) 1 (beN gh 0 % nN) 3 = K := ((va_up_ne _ _ (by decide)).trans (va_up_ne _ _ (by decide))).trans q3
  generalize va_up (va_up Q' 0 (v6 % nN)) 1 (beN gh 0 % nN) = G1 at *
  have O11 := u11.at O10 (by decide)
  have r0 : G1 0 < nN := by rw [a0]; exact Nat.mod_lt _ (by decide)
  have r1 : G1 1 < nN := by rw [a1]; exact Nat.mod_lt _ (by decide)
  refine ks_aload_n dX3_writeSignature_179 rfl rfl ?_
  refine ks_bipush (x := nI 9) dX3_writeSignature_180 (by decide) rfl ?_
  refine ks_iconst (x := nI 0) dX3_writeSignature_182 (by decide) rfl ?_
  refine ks_iload_n dX3_writeSignature_183 rfl rfl ?_
  refine ks_callV (n := 3) (M' := mX3_addTimes) (c_cv_addTimes (d := d + 1) (o := 1) (a := 0) (n := n) O11 Q11 (by decide) (by decide) (by decide) (by decide) hn r1 r0) O11 cl_X3 rfl kx_1374 kx_1376 kxp_23 kx_4 kx_1377 (by decide +kernel) rfl (by decide) (Nat.le_of_ble_eq_true rfl) rfl dX3_writeSignature_184 rfl (fun z12 T12 y12 => ?_)
  obtain ⟨rfl, u12, G2, Q12, h12, j12⟩ := y12
  rw [a0, a1] at h12
  have c0 : G2 0 = v6 % nN := (j12 0 (by decide) (by decide)).trans a0
  have c3 : G2 3 = K := (j12 3 (by decide) (by decide)).trans a3
  have O12 := u12.at O11 (by decide)
  refine ks_aload_n dX3_writeSignature_187 rfl rfl ?_
  refine ks_getf (T := TX3) (kf := 1) kx_536 rfl in_X3 cl_X3 (by decide) O12 rfl dX3_writeSignature_188 rfl ?_
  refine ks_bipush (x := nI 9) dX3_writeSignature_191 (by decide) rfl ?_
  refine ks_bipush (x := nI 9) dX3_writeSignature_193 (by decide) rfl ?_
  refine ks_bipush (x := nI 27) dX3_writeSignature_195 (by decide) rfl ?_
  refine ks_callV (n := 3) (M' := mX5_divide) (c_fd_divide (d := d + 1) (o := 1) (x := 1) (y := 3) Q12.1 (by decide) (by decide) (by decide) (by rw [Q12.2]; exact n2) (by rw [Q12.2]; decide) (by rw [Q12.2, h12]; exact Nat.mod_lt _ (by decide)) (by rw [Q12.2, c3]; exact hKn)) Q12.1.1 cl_X5 rfl kx_1190 kx_1191 kx_1192 kx_5 kx_1193 (by decide +kernel) rfl (by decide) (Nat.le_of_ble_eq_true rfl) rfl dX3_writeSignature_197 rfl (fun z13 T13 y13 => ?_)
  obtain ⟨rfl, u13, G3, s, f13, k13, e13, p13⟩ := y13
  rw [Q12.2, h12, c3] at p13
  have Q13 : scX T13 G3 := ⟨f13, (k13 5 (by decide) (by decide)).trans Q12.2⟩
  have d0 : G3 0 = v6 % nN := (k13 0 (by decide) (by decide)).trans c0
  have O13 := u13.at O12 (by decide)
  have SN : wsN n gh v6 s := by unfold wsN; rw [hKd]; exact ⟨px, p13⟩
  have uB : ks_up T9 T13 [18] := u10.trans (u11.trans (u12.trans u13))
  have W13 := uB.at W9 (by decide)
  have uC : ks_up T1 T13 [16, 18, 19] := uA.trans (uB.mono (by decide))
  have B13 := (B0.up u1 (by simp only [List.mem_cons, List.not_mem_nil, or_false]; omega) (by simp only [List.mem_cons, List.not_mem_nil, or_false]; omega)).up uC (by simp only [List.mem_cons, List.not_mem_nil, or_false]; omega) (by simp only [List.mem_cons, List.not_mem_nil, or_false]; omega)
  have hh13 := hh1.up uC (by decide)
  have uD : ks_up T7 T13 [18] := u8.trans (u9.trans uB)
  have C13 : cvX T13 ir F6 := ⟨uD.at C7.1 (by decide), C7.2.1.up uD (by decide) (by decide), C7.2.2⟩
  have I13 : cuI T13 := ⟨ir, F6, G3, ⟨C13, Q13, F7, k7, W13⟩, R6c⟩
  have vA : ks_up S T13 [16, 18, 19, 9, 8, 10, 11] := (v0.mono (by decide)).trans (uC.mono (by decide))
  clear gF eK u0 u1 u2 u3 u4 u5 u6 u7 u8 u9 u10 u11 u12 u13 C0 C1 C2 C3 C4 C5 C6 C7
  obtain ⟨lb, gb, -, -, -, ob13, -⟩ := id B13
  refine ks_aload dX3_writeSignature_200 rfl rfl ?_
  refine ks_callV (n := 0) (M' := mX1_clear) (bf_clear (d := d + 4) B13) ob13 cl_X1 rfl kx_1378 kx_843 kx_844 kx_2 kx_845 (by decide +kernel) rfl (by decide) (Nat.le_of_ble_eq_true rfl) rfl dX3_writeSignature_202 rfl (fun z14 T14 y14 => ?_)
  obtain ⟨rfl, t14, B14⟩ := y14
  have C14 : cvX T14 ir F6 := ⟨t14.at C13.1 (by simp only [List.mem_cons, List.not_mem_nil, or_false]; omega), C13.2.1.up t14 (by simp only [List.mem_cons, List.not_mem_nil, or_false]; omega) (by simp only [List.mem_cons, List.not_mem_nil, or_false]; omega), C13.2.2⟩
  have W14 := t14.at W13 (by simp only [List.mem_cons, List.not_mem_nil, or_false]; omega)
  have O14 := C14.1
  have Q14 := Q13.up t14 (by simp only [List.mem_cons, List.not_mem_nil, or_false]; omega) (by simp only [List.mem_cons, List.not_mem_nil, or_false]; omega)
  have hh14 := hh13.up t14 (by intro q hq; simp only [List.mem_cons, List.not_mem_nil, or_false] at hq; omega)
  obtain ⟨lb, gb, kgb, hlb, ab14, ob14, ql14⟩ := id B14
  refine ks_aload dX3_writeSignature_205 rfl rfl ?_
  refine ks_ldc2 dX3_writeSignature_207 kx_1379 rfl ?_
  refine ks_tl (y := lN 48) rfl ?_
  refine ks_iconst (x := nI 1) dX3_writeSignature_210 (by decide) rfl ?_
  refine ks_callV (n := 2) (M' := mX1_addNumber) (bf_number (d := d + 4) (v := lN 48) (sz := 1) B14 hN31 (by decide)) ob14 cl_X1 rfl kx_1216 kx_829 kx_830 kx_2 kx_831 (by decide +kernel) rfl (by decide) (Nat.le_of_ble_eq_true rfl) rfl dX3_writeSignature_211 rfl (fun z15 T15 y15 => ?_)
  obtain ⟨rfl, t15, B15⟩ := y15
  rw [num1 (by decide), bfA_fit (by simp only [List.length_cons, List.length_nil]; omega)] at B15
  have C15 : cvX T15 ir F6 := ⟨t15.at C14.1 (by simp only [List.mem_cons, List.not_mem_nil, or_false]; omega), C14.2.1.up t15 (by simp only [List.mem_cons, List.not_mem_nil, or_false]; omega) (by simp only [List.mem_cons, List.not_mem_nil, or_false]; omega), C14.2.2⟩
  have W15 := t15.at W14 (by simp only [List.mem_cons, List.not_mem_nil, or_false]; omega)
  have O15 := C15.1
  have Q15 := Q14.up t15 (by simp only [List.mem_cons, List.not_mem_nil, or_false]; omega) (by simp only [List.mem_cons, List.not_mem_nil, or_false]; omega)
  have hh15 := hh14.up t15 (by intro q hq; simp only [List.mem_cons, List.not_mem_nil, or_false] at hq; omega)
  obtain ⟨lb, gb, kgb, hlb, ab15, ob15, ql15⟩ := id B15
  refine ks_aload dX3_writeSignature_214 rfl rfl ?_
  refine ks_lconst (x := lN 0) dX3_writeSignature_216 (by decide) rfl ?_
  refine ks_iconst (x := nI 1) dX3_writeSignature_217 (by decide) rfl ?_
  refine ks_callV (n := 2) (M' := mX1_addNumber) (bf_number (d := d + 4) (v := lN 0) (sz := 1) B15 hN31 (by decide)) ob15 cl_X1 rfl kx_1216 kx_829 kx_830 kx_2 kx_831 (by decide +kernel) rfl (by decide) (Nat.le_of_ble_eq_true rfl) rfl dX3_writeSignature_218 rfl (fun z16 T16 y16 => ?_)
  obtain ⟨rfl, t16, B16⟩ := y16
  rw [num1 (by decide), bfA_fit (by simp only [List.length_append, List.length_cons, List.length_nil]; omega)] at B16
  have C16 : cvX T16 ir F6 := ⟨t16.at C15.1 (by simp only [List.mem_cons, List.not_mem_nil, or_false]; omega), C15.2.1.up t16 (by simp only [List.mem_cons, List.not_mem_nil, or_false]; omega) (by simp only [List.mem_cons, List.not_mem_nil, or_false]; omega), C15.2.2⟩
  have W16 := t16.at W15 (by simp only [List.mem_cons, List.not_mem_nil, or_false]; omega)
  have O16 := C16.1
  have Q16 := Q15.up t16 (by simp only [List.mem_cons, List.not_mem_nil, or_false]; omega) (by simp only [List.mem_cons, List.not_mem_nil, or_false]; omega)
  have hh16 := hh15.up t16 (by intro q hq; simp only [List.mem_cons, List.not_mem_nil, or_false] at hq; omega)
  obtain ⟨lb, gb, kgb, hlb, ab16, ob16, ql16⟩ := id B16
  have dl0 := derB_len (v6 % nN)
  have dl1 := derB_len s
  refine ks_aload_n dX3_writeSignature_221 rfl rfl ?_
  refine ks_iconst (x := nI 0) dX3_writeSignature_222 (by decide) rfl ?_
  refine ks_aload dX3_writeSignature_223 rfl rfl ?_
  refine ks_callV (n := 2) (M' := mX3_writeDerNumber) (c_cv_writeDer (d := d + 2) (x := 0) O16 Q16 W16 k7 B16 hN31 (by simp only [List.length_append, List.length_cons, List.length_nil]; omega) (by decide) (by omega) (by omega)) O16 cl_X3 rfl kx_1380 kx_1382 kxp_24 kx_4 kx_1383 (by decide +kernel) rfl (by decide) (Nat.le_of_ble_eq_true rfl) rfl dX3_writeSignature_225 rfl (fun z17 T17 y17 => ?_)
  obtain ⟨rfl, t17, ⟨r17, kr17, W17⟩, B17⟩ := y17
  have C17 : cvX T17 ir F6 := ⟨t17.at C16.1 (by simp only [List.mem_cons, List.not_mem_nil, or_false]; omega), C16.2.1.up t17 (by simp only [List.mem_cons, List.not_mem_nil, or_false]; omega) (by simp only [List.mem_cons, List.not_mem_nil, or_false]; omega), C16.2.2⟩
  have O17 := C17.1
  have Q17 := Q16.up t17 (by simp only [List.mem_cons, List.not_mem_nil, or_false]; omega) (by simp only [List.mem_cons, List.not_mem_nil, or_false]; omega)
  have hh17 := hh16.up t17 (by intro q hq; simp only [List.mem_cons, List.not_mem_nil, or_false] at hq; omega)
  obtain ⟨lb, gb, kgb, hlb, ab17, ob17, ql17⟩ := id B17
  rw [d0] at B17 ql17
  refine ks_aload_n dX3_writeSignature_228 rfl rfl ?_
  refine ks_bipush (x := nI 9) dX3_writeSignature_229 (by decide) rfl ?_
  refine ks_aload dX3_writeSignature_231 rfl rfl ?_
  refine ks_callV (n := 2) (M' := mX3_writeDerNumber) (c_cv_writeDer (d := d + 2) (x := 1) O17 Q17 W17 kr17 B17 hN31 (by simp only [List.length_append, List.length_cons, List.length_nil]; omega) (by decide) (by omega) (by omega)) O17 cl_X3 rfl kx_1380 kx_1382 kxp_24 kx_4 kx_1383 (by decide +kernel) rfl (by decide) (Nat.le_of_ble_eq_true rfl) rfl dX3_writeSignature_233 rfl (fun z18 T18 y18 => ?_)
  obtain ⟨rfl, t18, ⟨r18, kr18, W18⟩, B18⟩ := y18
  have C18 : cvX T18 ir F6 := ⟨t18.at C17.1 (by simp only [List.mem_cons, List.not_mem_nil, or_false]; omega), C17.2.1.up t18 (by simp only [List.mem_cons, List.not_mem_nil, or_false]; omega) (by simp only [List.mem_cons, List.not_mem_nil, or_false]; omega), C17.2.2⟩
  have O18 := C18.1
  have Q18 := Q17.up t18 (by simp only [List.mem_cons, List.not_mem_nil, or_false]; omega) (by simp only [List.mem_cons, List.not_mem_nil, or_false]; omega)
  have hh18 := hh17.up t18 (by intro q hq; simp only [List.mem_cons, List.not_mem_nil, or_false] at hq; omega)
  obtain ⟨lb, gb, kgb, hlb, ab18, ob18, ql18⟩ := id B18
  rw [e13] at B18 ql18
  obtain ⟨qlen, qg⟩ := ql18
  simp only [List.length_append, List.length_cons, List.length_nil] at qlen
  refine ks_aload dX3_writeSignature_236 rfl rfl ?_
  refine ks_getf (T := TX1) (kf := 0) kx_53 rfl in_X1 cl_X1 (by decide) ob18 rfl dX3_writeSignature_238 rfl ?_
  refine ks_iconst (x := nI 1) dX3_writeSignature_241 (by decide) rfl ?_
  refine ks_aload dX3_writeSignature_242 rfl rfl ?_
  refine ks_getf (T := TX1) (kf := 1) kx_61 rfl in_X1 cl_X1 (by decide) ob18 rfl dX3_writeSignature_244 rfl ?_
  refine ks_iconst (x := nI 2) dX3_writeSignature_247 (by decide) rfl ?_
  refine ks_subN (by omega) dX3_writeSignature_248 rfl ?_
  refine ks_i2b dX3_writeSignature_249 rfl ?_
  refine ks_bastB (i := 1) (c := (lb - 2) % 256) ab18 rfl (by omega) (by omega) ((ks_by_i8 _).trans (ks_by_nI _)) dX3_writeSignature_250 rfl ?_
  refine ks_aload dX3_writeSignature_251 rfl rfl ?_
  refine ks_iload_n dX3_writeSignature_253 rfl rfl ?_
  refine ks_i2lN (by omega) dX3_writeSignature_254 rfl ?_
  refine ks_iconst (x := nI 1) dX3_writeSignature_255 (by decide) rfl ?_
  obtain ⟨S19, hS19⟩ : ∃ S19 : ks_S, S19 = ks_set T18 a (kB N (va_up gb 1 ((lb - 2) % 256))) := ⟨_, rfl⟩
  refine ks_tS (S' := S19) hS19.symm ?_
  have t19 : ks_up T18 S19 [a, b] := by rw [hS19]; exact ks_up_set _ _ List.mem_cons_self
  have eo : [] ++ [48] ++ [0] ++ derB (v6 % nN) ++ derB s = 48 :: 0 :: (derB (v6 % nN) ++ derB s) := by simp
  have en : [48, (derB (v6 % nN) ++ derB s).length] ++ derB (v6 % nN) ++ derB s = 48 :: (derB (v6 % nN) ++ derB s).length :: (derB (v6 % nN) ++ derB s) := by simp
  have eX : (derB (v6 % nN) ++ derB s).length = lb - 2 := by rw [List.length_append]; omega
  rw [eo] at qg
  have B19 : bfS S19 b a N (some ([48, (derB (v6 % nN) ++ derB s).length] ++ derB (v6 % nN) ++ derB s)) := by
    rw [en, hS19]
    refine ⟨lb, _, ?_, hlb, ks_set_same _ _ _, (ks_set_ne _ _ (Ne.symm (ks_neO ab18 ob18))).trans ob18, ?_, fun j hj => ?_⟩
    · exact kO_up kgb (Nat.mod_lt _ (by decide))
    · simp only [List.length_cons, List.length_append]; omega
    · by_cases e : j = 1
      · subst e
        rw [va_up_self, Nat.mod_eq_of_lt (by omega)]
        show lb - 2 = (derB (v6 % nN) ++ derB s).length
        rw [eX]
      · rw [va_up_ne _ _ e, qg j hj]
        cases j with
        | zero => rfl
        | succ j =>
          cases j with
          | zero => exact absurd rfl e
          | succ j => rfl
  have C19 : cvX S19 ir F6 := ⟨t19.at C18.1 (by simp only [List.mem_cons, List.not_mem_nil, or_false]; omega), C18.2.1.up t19 (by simp only [List.mem_cons, List.not_mem_nil, or_false]; omega) (by simp only [List.mem_cons, List.not_mem_nil, or_false]; omega), C18.2.2⟩
  have W19 := t19.at W18 (by simp only [List.mem_cons, List.not_mem_nil, or_false]; omega)
  have O19 := C19.1
  have Q19 := Q18.up t19 (by simp only [List.mem_cons, List.not_mem_nil, or_false]; omega) (by simp only [List.mem_cons, List.not_mem_nil, or_false]; omega)
  have hh19 := hh18.up t19 (by intro q hq; simp only [List.mem_cons, List.not_mem_nil, or_false] at hq; omega)
  obtain ⟨lb2, gb2, -, -, -, ob19, -⟩ := id B19
  refine ks_callV (n := 2) (M' := mX1_addNumber) (bf_number (d := d + 4) (v := lN ty) (sz := 1) B19 hN31 (by decide)) ob19 cl_X1 rfl kx_1216 kx_829 kx_830 kx_2 kx_831 (by decide +kernel) rfl (by decide) (Nat.le_of_ble_eq_true rfl) rfl dX3_writeSignature_256 rfl (fun z20 T20 y20 => ?_)
  obtain ⟨rfl, t20, B20⟩ := y20
  rw [num1 hty, bfA_fit (by simp only [List.length_append, List.length_cons, List.length_nil]; omega)] at B20
  have C20 : cvX T20 ir F6 := ⟨t20.at C19.1 (by simp only [List.mem_cons, List.not_mem_nil, or_false]; omega), C19.2.1.up t20 (by simp only [List.mem_cons, List.not_mem_nil, or_false]; omega) (by simp only [List.mem_cons, List.not_mem_nil, or_false]; omega), C19.2.2⟩
  have W20 := t20.at W19 (by simp only [List.mem_cons, List.not_mem_nil, or_false]; omega)
  have Q20 := Q19.up t20 (by simp only [List.mem_cons, List.not_mem_nil, or_false]; omega) (by simp only [List.mem_cons, List.not_mem_nil, or_false]; omega)
  have hh20 := hh19.up t20 (by intro q hq; simp only [List.mem_cons, List.not_mem_nil, or_false] at hq; omega)
  refine ks_ret rfl dX3_writeSignature_259 ?_
  have s0 : ∀ q, q ∈ [16, 18, 19, 9, 8, 10, 11] → q ∈ [16, 18, 19, 9, 8, 10, 11, a, b] := by intro q hq; simp only [List.mem_cons, List.not_mem_nil, or_false] at hq ⊢; omega
  have s1 : ∀ q, q ∈ [a, b] → q ∈ [16, 18, 19, 9, 8, 10, 11, a, b] := by intro q hq; simp only [List.mem_cons, List.not_mem_nil, or_false] at hq ⊢; omega
  have s2 : ∀ q, q ∈ [19, a, b] → q ∈ [16, 18, 19, 9, 8, 10, 11, a, b] := by intro q hq; simp only [List.mem_cons, List.not_mem_nil, or_false] at hq ⊢; omega
  exact ⟨rfl, (vA.mono s0).trans ((t14.mono s1).trans ((t15.mono s1).trans ((t16.mono s1).trans ((t17.mono s2).trans ((t18.mono s2).trans ((t19.mono s1).trans (t20.mono s1))))))), ⟨ir, F6, G3, ⟨C20, Q20, r18, kr18, W20⟩, R6c⟩, hh20, v6, s, SN, B20⟩
