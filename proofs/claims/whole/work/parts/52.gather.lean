/-! MACHINE: what signatures and keys are taken -/
def gmS (xs : List (List Nat)) (ops : Nat) : Option (Nat × Nat) :=
  if 0 < xs.length ∧ (xs.getD 0 []).length ≤ 4 then
    (if 0 ≤ numV (xs.getD 0 []) ∧ numV (xs.getD 0 []) ≤ 20 then
      (if ops + (numV (xs.getD 0 [])).toNat ≤ 201 ∧ (numV (xs.getD 0 [])).toNat + 1 < xs.length ∧ (xs.getD ((numV (xs.getD 0 [])).toNat + 1) []).length ≤ 4 then
        (if 0 ≤ numV (xs.getD ((numV (xs.getD 0 [])).toNat + 1) []) ∧ numV (xs.getD ((numV (xs.getD 0 [])).toNat + 1) []) ≤ numV (xs.getD 0 []) ∧ (numV (xs.getD 0 [])).toNat + (numV (xs.getD ((numV (xs.getD 0 [])).toNat + 1) [])).toNat + 3 ≤ xs.length then
          some ((numV (xs.getD 0 [])).toNat, (numV (xs.getD ((numV (xs.getD 0 [])).toNat + 1) [])).toNat)
        else none)
      else none)
    else none)
  else none
set_option maxRecDepth 100000 in
set_option maxHeartbeats 2000000 in
theorem c_mc_gatherOne {l : Launch} {G : ks_G} {d : Nat} {S : ks_S} {inp cy pa pe pb ops opn cl : Nat} {kT kC sT sC : Int32} (hM : S.2.2 27 = some (mcO inp cy pa pe pb ops opn cl kT kC sT sC)) {xs ys : List (List Nat)} {u : Nat} (hO : st_ok S xs ys u) : ks_P l G yX7_gatherOne mX7_gatherOne d [.ref 27] S (fun z S' => ks_up S S' [27] ∧ ((xs.length < 2 ∧ (z = some (.int (-1)) ∧ ∃ o2 a b c e, S'.2.2 27 = some (mcO inp cy pa pe pb o2 opn cl a b c e))) ∨ (2 ≤ xs.length ∧ z = some (.int (nI 2)) ∧ S'.2.2 27 = some (mcO inp cy pa pe pb ops opn cl (nI (xs.length - 1)) (nI 1) (nI (xs.length - 2)) (nI 1))))) := by
  have bd := hO.bd
  refine ks_of (by decide) rfl rfl (Nat.le_of_ble_eq_true rfl) ?_
  show ks_X l G mX7_gatherOne d 0 [(0, .ref 27)] [] S _
  by_cases h2 : xs.length < 2
  · refine ks_aload_n dX7_gatherOne_0 rfl rfl ?_
    refine ks_aload_n dX7_gatherOne_1 rfl rfl ?_
    refine ks_getf (T := TX7) (kf := 3) kx_646 rfl in_X7 cl_X7 (by decide) hM rfl dX7_gatherOne_2 rfl ?_
    refine ks_getf (T := TX8) (kf := 3) kx_615 rfl in_X8 cl_X8 (by decide) hO.ob rfl dX7_gatherOne_5 rfl ?_
    refine ks_iconst (x := nI 1) dX7_gatherOne_8 (by decide) rfl ?_
    refine ks_isub dX7_gatherOne_9 rfl ?_
    refine ks_putf (T := TX7) (kf := 16) kx_659 rfl in_X7 tyX7_ok nmX7 cl_X7 (by decide) hM (Nat.le_of_ble_eq_true rfl) rfl rfl rfl rfl dX7_gatherOne_10 rfl ?_
    refine ks_aload_n dX7_gatherOne_13 rfl rfl ?_
    refine ks_iconst (x := nI 1) dX7_gatherOne_14 (by decide) rfl ?_
    refine ks_putf (T := TX7) (kf := 17) kx_660 rfl in_X7 tyX7_ok nmX7 cl_X7 (by decide) (ks_set_same _ _ _) (Nat.le_of_ble_eq_true rfl) rfl rfl rfl rfl dX7_gatherOne_15 rfl ?_
    refine ks_aload_n dX7_gatherOne_18 rfl rfl ?_
    refine ks_aload_n dX7_gatherOne_19 rfl rfl ?_
    refine ks_getf (T := TX7) (kf := 3) kx_646 rfl in_X7 cl_X7 (by decide) (ks_set_same _ _ _) rfl dX7_gatherOne_20 rfl ?_
    refine ks_getf (T := TX8) (kf := 3) kx_615 rfl in_X8 cl_X8 (by decide) ((ks_set_ne _ _ (by decide)).trans ((ks_set_ne _ _ (by decide)).trans hO.ob)) rfl dX7_gatherOne_23 rfl ?_
    refine ks_iconst (x := nI 2) dX7_gatherOne_26 (by decide) rfl ?_
    refine ks_isub dX7_gatherOne_27 rfl ?_
    refine ks_putf (T := TX7) (kf := 18) kx_661 rfl in_X7 tyX7_ok nmX7 cl_X7 (by decide) (ks_set_same _ _ _) (Nat.le_of_ble_eq_true rfl) rfl rfl rfl rfl dX7_gatherOne_28 rfl ?_
    refine ks_aload_n dX7_gatherOne_31 rfl rfl ?_
    refine ks_iconst (x := nI 1) dX7_gatherOne_32 (by decide) rfl ?_
    refine ks_putf (T := TX7) (kf := 19) kx_662 rfl in_X7 tyX7_ok nmX7 cl_X7 (by decide) (ks_set_same _ _ _) (Nat.le_of_ble_eq_true rfl) rfl rfl rfl rfl dX7_gatherOne_33 rfl ?_
    refine ks_aload_n dX7_gatherOne_36 rfl rfl ?_
    refine ks_getf (T := TX7) (kf := 3) kx_646 rfl in_X7 cl_X7 (by decide) (ks_set_same _ _ _) rfl dX7_gatherOne_37 rfl ?_
    refine ks_getf (T := TX8) (kf := 3) kx_615 rfl in_X8 cl_X8 (by decide) ((ks_set_ne _ _ (by decide)).trans ((ks_set_ne _ _ (by decide)).trans ((ks_set_ne _ _ (by decide)).trans ((ks_set_ne _ _ (by decide)).trans hO.ob)))) rfl dX7_gatherOne_40 rfl ?_
    refine ks_iconst (x := nI 2) dX7_gatherOne_43 (by decide) rfl ?_
    refine ks_icmp_geN (tgt := 51) (by omega) (by decide) dX7_gatherOne_44 (by decide) rfl (fun h3 => ?_) (fun h3 => ?_)
    · omega
    · refine ks_iconst (x := (-1)) dX7_gatherOne_47 (by decide) rfl ?_
      refine ks_goto (tgt := 52) dX7_gatherOne_48 (by decide) ?_
      refine ks_iret rfl dX7_gatherOne_52 ?_
      exact ⟨(by repeat first | exact ks_up_set _ _ (by decide) | refine ks_up.trans ?_ (ks_up_set _ _ (by decide))), Or.inl ⟨h2, rfl, _, _, _, _, _, (ks_set_same _ _ _)⟩⟩
  · refine ks_aload_n dX7_gatherOne_0 rfl rfl ?_
    refine ks_aload_n dX7_gatherOne_1 rfl rfl ?_
    refine ks_getf (T := TX7) (kf := 3) kx_646 rfl in_X7 cl_X7 (by decide) hM rfl dX7_gatherOne_2 rfl ?_
    refine ks_getf (T := TX8) (kf := 3) kx_615 rfl in_X8 cl_X8 (by decide) hO.ob rfl dX7_gatherOne_5 rfl ?_
    refine ks_iconst (x := nI 1) dX7_gatherOne_8 (by decide) rfl ?_
    refine ks_subN (by omega) dX7_gatherOne_9 rfl ?_
    refine ks_putf (T := TX7) (kf := 16) kx_659 rfl in_X7 tyX7_ok nmX7 cl_X7 (by decide) hM (Nat.le_of_ble_eq_true rfl) rfl rfl rfl rfl dX7_gatherOne_10 rfl ?_
    refine ks_aload_n dX7_gatherOne_13 rfl rfl ?_
    refine ks_iconst (x := nI 1) dX7_gatherOne_14 (by decide) rfl ?_
    refine ks_putf (T := TX7) (kf := 17) kx_660 rfl in_X7 tyX7_ok nmX7 cl_X7 (by decide) (ks_set_same _ _ _) (Nat.le_of_ble_eq_true rfl) rfl rfl rfl rfl dX7_gatherOne_15 rfl ?_
    refine ks_aload_n dX7_gatherOne_18 rfl rfl ?_
    refine ks_aload_n dX7_gatherOne_19 rfl rfl ?_
    refine ks_getf (T := TX7) (kf := 3) kx_646 rfl in_X7 cl_X7 (by decide) (ks_set_same _ _ _) rfl dX7_gatherOne_20 rfl ?_
    refine ks_getf (T := TX8) (kf := 3) kx_615 rfl in_X8 cl_X8 (by decide) ((ks_set_ne _ _ (by decide)).trans ((ks_set_ne _ _ (by decide)).trans hO.ob)) rfl dX7_gatherOne_23 rfl ?_
    refine ks_iconst (x := nI 2) dX7_gatherOne_26 (by decide) rfl ?_
    refine ks_subN (by omega) dX7_gatherOne_27 rfl ?_
    refine ks_putf (T := TX7) (kf := 18) kx_661 rfl in_X7 tyX7_ok nmX7 cl_X7 (by decide) (ks_set_same _ _ _) (Nat.le_of_ble_eq_true rfl) rfl rfl rfl rfl dX7_gatherOne_28 rfl ?_
    refine ks_aload_n dX7_gatherOne_31 rfl rfl ?_
    refine ks_iconst (x := nI 1) dX7_gatherOne_32 (by decide) rfl ?_
    refine ks_putf (T := TX7) (kf := 19) kx_662 rfl in_X7 tyX7_ok nmX7 cl_X7 (by decide) (ks_set_same _ _ _) (Nat.le_of_ble_eq_true rfl) rfl rfl rfl rfl dX7_gatherOne_33 rfl ?_
    refine ks_aload_n dX7_gatherOne_36 rfl rfl ?_
    refine ks_getf (T := TX7) (kf := 3) kx_646 rfl in_X7 cl_X7 (by decide) (ks_set_same _ _ _) rfl dX7_gatherOne_37 rfl ?_
    refine ks_getf (T := TX8) (kf := 3) kx_615 rfl in_X8 cl_X8 (by decide) ((ks_set_ne _ _ (by decide)).trans ((ks_set_ne _ _ (by decide)).trans ((ks_set_ne _ _ (by decide)).trans ((ks_set_ne _ _ (by decide)).trans hO.ob)))) rfl dX7_gatherOne_40 rfl ?_
    refine ks_iconst (x := nI 2) dX7_gatherOne_43 (by decide) rfl ?_
    refine ks_icmp_geN (tgt := 51) (by omega) (by decide) dX7_gatherOne_44 (by decide) rfl (fun h3 => ?_) (fun h3 => ?_)
    · refine ks_iconst (x := nI 2) dX7_gatherOne_51 (by decide) rfl ?_
      refine ks_iret rfl dX7_gatherOne_52 ?_
      exact ⟨(by repeat first | exact ks_up_set _ _ (by decide) | refine ks_up.trans ?_ (ks_up_set _ _ (by decide))), Or.inr ⟨by omega, rfl, (ks_set_same _ _ _)⟩⟩
    · omega
set_option maxRecDepth 100000 in
set_option maxHeartbeats 2000000 in
theorem c_mc_gatherMany {l : Launch} {G : ks_G} {d : Nat} {S : ks_S} {inp cy pa pe pb ops opn cl : Nat} {kT kC sT sC : Int32} (hM : S.2.2 27 = some (mcO inp cy pa pe pb ops opn cl kT kC sT sC)) {xs ys : List (List Nat)} {u : Nat} (hO : st_ok S xs ys u) (ho : ops ≤ 201) : ks_P l G yX7_gatherMany mX7_gatherMany (d + 1) [.ref 27] S (fun z S' => ks_up S S' [27] ∧ (match gmS xs ops with
    | none => (z = some (.int (-1)) ∧ ∃ o2 a b c e, S'.2.2 27 = some (mcO inp cy pa pe pb o2 opn cl a b c e))
    | some q => z = some (.int (nI (q.1 + q.2 + 3))) ∧ S'.2.2 27 = some (mcO inp cy pa pe pb (ops + q.1) opn cl (nI (xs.length - 2)) (nI q.1) (nI (xs.length - 2 - q.1 - 1)) (nI q.2)))) := by
  have bd := hO.bd
  refine ks_of (by decide) rfl rfl (Nat.le_of_ble_eq_true rfl) ?_
  show ks_X l G mX7_gatherMany (d + 1) 0 [(0, .ref 27)] [] S _
  refine ks_aload_n dX7_gatherMany_0 rfl rfl ?_
  refine ks_getf (T := TX7) (kf := 3) kx_646 rfl in_X7 cl_X7 (by decide) hM rfl dX7_gatherMany_1 rfl ?_
  refine ks_iconst (x := nI 0) dX7_gatherMany_4 (by decide) rfl ?_
  refine ks_iconst (x := nI 4) dX7_gatherMany_5 (by decide) rfl ?_
  refine ks_callV (n := 2) (M' := mX8_hasNumber) (c_st_hasNumber (d := d) (c := 0) (mo := 4) hO (by decide) (by decide)) hO.ob cl_X8 rfl kx_1596 kx_1597 kx_1598 kx_25 kx_1599 (by decide +kernel) rfl (by decide) (Nat.le_of_ble_eq_true rfl) rfl dX7_gatherMany_6 rfl (fun r1 T1 q1 => ?_)
  obtain ⟨t, rfl, hS1, ht⟩ := q1
  obtain rfl := hS1.symm
  rw [has_iff] at ht
  refine ks_if_neZ (tgt := 14) dX7_gatherMany_9 (by decide) rfl (fun h1 => ?_) (fun h1 => ?_)
  · have h4 := ht.mp h1
    have vb := num4 hO h4.1 h4.2
    have z0 : (lN 0 : Int64) = iL 0 := rfl
    have z20 : (lN 20 : Int64) = iL 20 := rfl
    have i1 := @iL_lt (numV (xs.getD 0 [])) 0 (by omega) (by omega) (by omega) (by omega)
    have i2 := @iL_le (numV (xs.getD 0 [])) 20 (by omega) (by omega) (by omega) (by omega)
    refine ks_aload_n dX7_gatherMany_14 rfl rfl ?_
    refine ks_getf (T := TX7) (kf := 3) kx_646 rfl in_X7 cl_X7 (by decide) hM rfl dX7_gatherMany_15 rfl ?_
    refine ks_iconst (x := nI 0) dX7_gatherMany_18 (by decide) rfl ?_
    refine ks_callV (n := 1) (M' := mX8_number) (c_st_number (d := d) (c := 0) hO (gD h4.1) (by omega)) hO.ob cl_X8 rfl kx_1600 kx_1601 kx_1602 kx_25 kx_1603 (by decide +kernel) rfl (by decide) (Nat.le_of_ble_eq_true rfl) rfl dX7_gatherMany_19 rfl (fun r2 T2 q2 => ?_)
    obtain ⟨rfl, hS2⟩ := q2
    obtain rfl := hS2.symm
    refine ks_lstore_n dX7_gatherMany_22 (by decide) rfl ?_
    refine ks_sub [(1, _), (0, _)] rfl ?_
    refine ks_lload_n dX7_gatherMany_23 rfl rfl ?_
    refine ks_lconst (x := lN 0) dX7_gatherMany_24 (by decide) rfl ?_
    refine ks_lif_lt (tgt := 37) dX7_gatherMany_25 rfl dX7_gatherMany_26 (by decide) rfl (fun h5 => ?_) (fun h5 => ?_)
    · refine ks_iconst (x := (-1)) dX7_gatherMany_37 (by decide) rfl ?_
      refine ks_iret rfl dX7_gatherMany_38 ?_
      rw [z0, i1] at h5
      have e9 : gmS xs ops = none := by
        unfold gmS
        rw [if_pos h4, if_neg (by omega)]
      rw [e9]
      exact ⟨(ks_up.rf _ _), rfl, _, _, _, _, _, hM⟩
    · rw [z0, i1] at h5
      refine ks_lload_n dX7_gatherMany_29 rfl rfl ?_
      refine ks_ldc2 dX7_gatherMany_30 kx_1604 rfl ?_
      refine ks_tl (y := lN 20) rfl ?_
      refine ks_lif_le (tgt := 39) dX7_gatherMany_33 rfl dX7_gatherMany_34 (by decide) rfl (fun h6 => ?_) (fun h6 => ?_)
      · rw [z20, i2] at h6
        obtain ⟨kk, hkk⟩ : ∃ kk : Nat, numV (xs.getD 0 []) = (kk : Int) := ⟨(numV (xs.getD 0 [])).toNat, by omega⟩
        have tk : (numV (xs.getD 0 [])).toNat = kk := by omega
        rw [hkk]
        have eg : gmS xs ops = if ops + kk ≤ 201 ∧ kk + 1 < xs.length ∧ (xs.getD (kk + 1) []).length ≤ 4 then (if 0 ≤ numV (xs.getD (kk + 1) []) ∧ numV (xs.getD (kk + 1) []) ≤ (kk : Int) ∧ kk + (numV (xs.getD (kk + 1) [])).toNat + 3 ≤ xs.length then some (kk, (numV (xs.getD (kk + 1) [])).toNat) else none) else none := by
          unfold gmS
          rw [if_pos h4, if_pos (by omega), tk, hkk]
        rw [eg]
        by_cases hl2 : xs.length < 2
        · refine ks_aload_n dX7_gatherMany_39 rfl rfl ?_
          refine ks_lload_n dX7_gatherMany_40 rfl rfl ?_
          refine ks_l2iN dX7_gatherMany_41 rfl ?_
          refine ks_putf (T := TX7) (kf := 17) kx_660 rfl in_X7 tyX7_ok nmX7 cl_X7 (by decide) hM (Nat.le_of_ble_eq_true rfl) rfl rfl rfl rfl dX7_gatherMany_42 rfl ?_
          refine ks_aload_n dX7_gatherMany_45 rfl rfl ?_
          refine ks_aload_n dX7_gatherMany_46 rfl rfl ?_
          refine ks_getf (T := TX7) (kf := 3) kx_646 rfl in_X7 cl_X7 (by decide) (ks_set_same _ _ _) rfl dX7_gatherMany_47 rfl ?_
          refine ks_getf (T := TX8) (kf := 3) kx_615 rfl in_X8 cl_X8 (by decide) ((ks_set_ne _ _ (by decide)).trans hO.ob) rfl dX7_gatherMany_50 rfl ?_
          refine ks_iconst (x := nI 2) dX7_gatherMany_53 (by decide) rfl ?_
          refine ks_isub dX7_gatherMany_54 rfl ?_
          refine ks_putf (T := TX7) (kf := 16) kx_659 rfl in_X7 tyX7_ok nmX7 cl_X7 (by decide) (ks_set_same _ _ _) (Nat.le_of_ble_eq_true rfl) rfl rfl rfl rfl dX7_gatherMany_55 rfl ?_
          refine ks_aload_n dX7_gatherMany_58 rfl rfl ?_
          refine ks_dup dX7_gatherMany_59 rfl rfl ?_
          refine ks_getf (T := TX7) (kf := 13) kx_656 rfl in_X7 cl_X7 (by decide) (ks_set_same _ _ _) rfl dX7_gatherMany_60 rfl ?_
          refine ks_aload_n dX7_gatherMany_63 rfl rfl ?_
          refine ks_getf (T := TX7) (kf := 17) kx_660 rfl in_X7 cl_X7 (by decide) (ks_set_same _ _ _) rfl dX7_gatherMany_64 rfl ?_
          refine ks_addN dX7_gatherMany_67 rfl ?_
          refine ks_putf (T := TX7) (kf := 13) kx_656 rfl in_X7 tyX7_ok nmX7 cl_X7 (by decide) (ks_set_same _ _ _) (Nat.le_of_ble_eq_true rfl) rfl rfl rfl rfl dX7_gatherMany_68 rfl ?_
          refine ks_aload_n dX7_gatherMany_71 rfl rfl ?_
          refine ks_getf (T := TX7) (kf := 13) kx_656 rfl in_X7 cl_X7 (by decide) (ks_set_same _ _ _) rfl dX7_gatherMany_72 rfl ?_
          refine ks_sipush (x := nI 201) dX7_gatherMany_75 (by decide) rfl ?_
          refine ks_icmp_gtN (tgt := 98) (by omega) (by decide) dX7_gatherMany_78 (by decide) rfl (fun h7 => ?_) (fun h7 => ?_)
          · refine ks_iconst (x := (-1)) dX7_gatherMany_98 (by decide) rfl ?_
            refine ks_iret rfl dX7_gatherMany_99 ?_
            rw [if_neg (by omega)]
            exact ⟨(by repeat first | exact ks_up_set _ _ (by decide) | refine ks_up.trans ?_ (ks_up_set _ _ (by decide))), rfl, _, _, _, _, _, (ks_set_same _ _ _)⟩
          · refine ks_aload_n dX7_gatherMany_81 rfl rfl ?_
            refine ks_getf (T := TX7) (kf := 3) kx_646 rfl in_X7 cl_X7 (by decide) (ks_set_same _ _ _) rfl dX7_gatherMany_82 rfl ?_
            refine ks_aload_n dX7_gatherMany_85 rfl rfl ?_
            refine ks_getf (T := TX7) (kf := 17) kx_660 rfl in_X7 cl_X7 (by decide) (ks_set_same _ _ _) rfl dX7_gatherMany_86 rfl ?_
            refine ks_iconst (x := nI 1) dX7_gatherMany_89 (by decide) rfl ?_
            refine ks_addN dX7_gatherMany_90 rfl ?_
            refine ks_iconst (x := nI 4) dX7_gatherMany_91 (by decide) rfl ?_
            refine ks_callV (n := 2) (M' := mX8_hasNumber) (c_st_hasNumber (d := d) (c := kk + 1) (mo := 4) (hO.up (L := [27]) (by repeat first | exact ks_up_set _ _ (by decide) | refine ks_up.trans ?_ (ks_up_set _ _ (by decide))) (by decide)) (by omega) (by decide)) ((ks_set_ne _ _ (by decide)).trans ((ks_set_ne _ _ (by decide)).trans ((ks_set_ne _ _ (by decide)).trans hO.ob))) cl_X8 rfl kx_1596 kx_1597 kx_1598 kx_25 kx_1599 (by decide +kernel) rfl (by decide) (Nat.le_of_ble_eq_true rfl) rfl dX7_gatherMany_92 rfl (fun r7 T7 q7 => ?_)
            obtain ⟨t7, rfl, hS7, ht7⟩ := q7
            rw [has_iff] at ht7
            subst T7
            refine ks_if_neZ (tgt := 100) dX7_gatherMany_95 (by decide) rfl (fun h8 => ?_) (fun h8 => ?_)
            · have k4 := ht7.mp h8
              rw [if_pos ⟨by omega, k4⟩]
              omega
            · refine ks_iconst (x := (-1)) dX7_gatherMany_98 (by decide) rfl ?_
              refine ks_iret rfl dX7_gatherMany_99 ?_
              rw [if_neg (fun h => by have := ht7.mpr h.2; rw [h8] at this; cases this)]
              exact ⟨(by repeat first | exact ks_up_set _ _ (by decide) | refine ks_up.trans ?_ (ks_up_set _ _ (by decide))), rfl, _, _, _, _, _, (ks_set_same _ _ _)⟩
        · refine ks_aload_n dX7_gatherMany_39 rfl rfl ?_
          refine ks_lload_n dX7_gatherMany_40 rfl rfl ?_
          refine ks_l2iN dX7_gatherMany_41 rfl ?_
          refine ks_putf (T := TX7) (kf := 17) kx_660 rfl in_X7 tyX7_ok nmX7 cl_X7 (by decide) hM (Nat.le_of_ble_eq_true rfl) rfl rfl rfl rfl dX7_gatherMany_42 rfl ?_
          refine ks_aload_n dX7_gatherMany_45 rfl rfl ?_
          refine ks_aload_n dX7_gatherMany_46 rfl rfl ?_
          refine ks_getf (T := TX7) (kf := 3) kx_646 rfl in_X7 cl_X7 (by decide) (ks_set_same _ _ _) rfl dX7_gatherMany_47 rfl ?_
          refine ks_getf (T := TX8) (kf := 3) kx_615 rfl in_X8 cl_X8 (by decide) ((ks_set_ne _ _ (by decide)).trans hO.ob) rfl dX7_gatherMany_50 rfl ?_
          refine ks_iconst (x := nI 2) dX7_gatherMany_53 (by decide) rfl ?_
          refine ks_subN (by omega) dX7_gatherMany_54 rfl ?_
          refine ks_putf (T := TX7) (kf := 16) kx_659 rfl in_X7 tyX7_ok nmX7 cl_X7 (by decide) (ks_set_same _ _ _) (Nat.le_of_ble_eq_true rfl) rfl rfl rfl rfl dX7_gatherMany_55 rfl ?_
          refine ks_aload_n dX7_gatherMany_58 rfl rfl ?_
          refine ks_dup dX7_gatherMany_59 rfl rfl ?_
          refine ks_getf (T := TX7) (kf := 13) kx_656 rfl in_X7 cl_X7 (by decide) (ks_set_same _ _ _) rfl dX7_gatherMany_60 rfl ?_
          refine ks_aload_n dX7_gatherMany_63 rfl rfl ?_
          refine ks_getf (T := TX7) (kf := 17) kx_660 rfl in_X7 cl_X7 (by decide) (ks_set_same _ _ _) rfl dX7_gatherMany_64 rfl ?_
          refine ks_addN dX7_gatherMany_67 rfl ?_
          refine ks_putf (T := TX7) (kf := 13) kx_656 rfl in_X7 tyX7_ok nmX7 cl_X7 (by decide) (ks_set_same _ _ _) (Nat.le_of_ble_eq_true rfl) rfl rfl rfl rfl dX7_gatherMany_68 rfl ?_
          refine ks_aload_n dX7_gatherMany_71 rfl rfl ?_
          refine ks_getf (T := TX7) (kf := 13) kx_656 rfl in_X7 cl_X7 (by decide) (ks_set_same _ _ _) rfl dX7_gatherMany_72 rfl ?_
          refine ks_sipush (x := nI 201) dX7_gatherMany_75 (by decide) rfl ?_
          refine ks_icmp_gtN (tgt := 98) (by omega) (by decide) dX7_gatherMany_78 (by decide) rfl (fun h7 => ?_) (fun h7 => ?_)
          · refine ks_iconst (x := (-1)) dX7_gatherMany_98 (by decide) rfl ?_
            refine ks_iret rfl dX7_gatherMany_99 ?_
            rw [if_neg (by omega)]
            exact ⟨(by repeat first | exact ks_up_set _ _ (by decide) | refine ks_up.trans ?_ (ks_up_set _ _ (by decide))), rfl, _, _, _, _, _, (ks_set_same _ _ _)⟩
          · refine ks_aload_n dX7_gatherMany_81 rfl rfl ?_
            refine ks_getf (T := TX7) (kf := 3) kx_646 rfl in_X7 cl_X7 (by decide) (ks_set_same _ _ _) rfl dX7_gatherMany_82 rfl ?_
            refine ks_aload_n dX7_gatherMany_85 rfl rfl ?_
            refine ks_getf (T := TX7) (kf := 17) kx_660 rfl in_X7 cl_X7 (by decide) (ks_set_same _ _ _) rfl dX7_gatherMany_86 rfl ?_
            refine ks_iconst (x := nI 1) dX7_gatherMany_89 (by decide) rfl ?_
            refine ks_addN dX7_gatherMany_90 rfl ?_
            refine ks_iconst (x := nI 4) dX7_gatherMany_91 (by decide) rfl ?_
            refine ks_callV (n := 2) (M' := mX8_hasNumber) (c_st_hasNumber (d := d) (c := kk + 1) (mo := 4) (hO.up (L := [27]) (by repeat first | exact ks_up_set _ _ (by decide) | refine ks_up.trans ?_ (ks_up_set _ _ (by decide))) (by decide)) (by omega) (by decide)) ((ks_set_ne _ _ (by decide)).trans ((ks_set_ne _ _ (by decide)).trans ((ks_set_ne _ _ (by decide)).trans hO.ob))) cl_X8 rfl kx_1596 kx_1597 kx_1598 kx_25 kx_1599 (by decide +kernel) rfl (by decide) (Nat.le_of_ble_eq_true rfl) rfl dX7_gatherMany_92 rfl (fun r7 T7 q7 => ?_)
            obtain ⟨t7, rfl, hS7, ht7⟩ := q7
            rw [has_iff] at ht7
            subst T7
            refine ks_if_neZ (tgt := 100) dX7_gatherMany_95 (by decide) rfl (fun h8 => ?_) (fun h8 => ?_)
            · have k4 := ht7.mp h8
              rw [if_pos ⟨by omega, k4⟩]
              have mb := num4 hO k4.1 k4.2
              have j1 := @iL_lt (numV (xs.getD (kk + 1) [])) 0 (by omega) (by omega) (by omega) (by omega)
              have j2 := @iL_le (numV (xs.getD (kk + 1) [])) (kk : Int) (by omega) (by omega) (by omega) (by omega)
              have zk : (lN kk : Int64) = iL (kk : Int) := rfl
              refine ks_aload_n dX7_gatherMany_100 rfl rfl ?_
              refine ks_getf (T := TX7) (kf := 3) kx_646 rfl in_X7 cl_X7 (by decide) (ks_set_same _ _ _) rfl dX7_gatherMany_101 rfl ?_
              refine ks_aload_n dX7_gatherMany_104 rfl rfl ?_
              refine ks_getf (T := TX7) (kf := 17) kx_660 rfl in_X7 cl_X7 (by decide) (ks_set_same _ _ _) rfl dX7_gatherMany_105 rfl ?_
              refine ks_iconst (x := nI 1) dX7_gatherMany_108 (by decide) rfl ?_
              refine ks_addN dX7_gatherMany_109 rfl ?_
              refine ks_callV (n := 1) (M' := mX8_number) (c_st_number (d := d) (c := kk + 1) (hO.up (L := [27]) (by repeat first | exact ks_up_set _ _ (by decide) | refine ks_up.trans ?_ (ks_up_set _ _ (by decide))) (by decide)) (gD k4.1) (by omega)) ((ks_set_ne _ _ (by decide)).trans ((ks_set_ne _ _ (by decide)).trans ((ks_set_ne _ _ (by decide)).trans hO.ob))) cl_X8 rfl kx_1600 kx_1601 kx_1602 kx_25 kx_1603 (by decide +kernel) rfl (by decide) (Nat.le_of_ble_eq_true rfl) rfl dX7_gatherMany_110 rfl (fun r8 T8 q8 => ?_)
              obtain ⟨rfl, hS8⟩ := q8
              subst T8
              refine ks_lstore_n dX7_gatherMany_113 (by decide) rfl ?_
              refine ks_sub [(3, _), (0, _), (1, _)] rfl ?_
              refine ks_lload_n dX7_gatherMany_114 rfl rfl ?_
              refine ks_lconst (x := lN 0) dX7_gatherMany_115 (by decide) rfl ?_
              refine ks_lif_lt (tgt := 126) dX7_gatherMany_116 rfl dX7_gatherMany_117 (by decide) rfl (fun h9 => ?_) (fun h9 => ?_)
              · refine ks_iconst (x := (-1)) dX7_gatherMany_126 (by decide) rfl ?_
                refine ks_iret rfl dX7_gatherMany_127 ?_
                rw [z0, j1] at h9
                rw [if_neg (by omega)]
                exact ⟨(by repeat first | exact ks_up_set _ _ (by decide) | refine ks_up.trans ?_ (ks_up_set _ _ (by decide))), rfl, _, _, _, _, _, (ks_set_same _ _ _)⟩
              · rw [z0, j1] at h9
                refine ks_lload_n dX7_gatherMany_120 rfl rfl ?_
                refine ks_lload_n dX7_gatherMany_121 rfl rfl ?_
                refine ks_lif_le (tgt := 128) dX7_gatherMany_122 rfl dX7_gatherMany_123 (by decide) rfl (fun h10 => ?_) (fun h10 => ?_)
                · rw [j2] at h10
                  obtain ⟨mm, hmm⟩ : ∃ mm : Nat, numV (xs.getD (kk + 1) []) = (mm : Int) := ⟨(numV (xs.getD (kk + 1) [])).toNat, by omega⟩
                  rw [hmm]
                  by_cases hf : xs.length < kk + mm + 3
                  · refine ks_aload_n dX7_gatherMany_128 rfl rfl ?_
                    refine ks_lload_n dX7_gatherMany_129 rfl rfl ?_
                    refine ks_l2iN dX7_gatherMany_130 rfl ?_
                    refine ks_putf (T := TX7) (kf := 19) kx_662 rfl in_X7 tyX7_ok nmX7 cl_X7 (by decide) (ks_set_same _ _ _) (Nat.le_of_ble_eq_true rfl) rfl rfl rfl rfl dX7_gatherMany_131 rfl ?_
                    refine ks_aload_n dX7_gatherMany_134 rfl rfl ?_
                    refine ks_aload_n dX7_gatherMany_135 rfl rfl ?_
                    refine ks_getf (T := TX7) (kf := 16) kx_659 rfl in_X7 cl_X7 (by decide) (ks_set_same _ _ _) rfl dX7_gatherMany_136 rfl ?_
                    refine ks_aload_n dX7_gatherMany_139 rfl rfl ?_
                    refine ks_getf (T := TX7) (kf := 17) kx_660 rfl in_X7 cl_X7 (by decide) (ks_set_same _ _ _) rfl dX7_gatherMany_140 rfl ?_
                    refine ks_isub dX7_gatherMany_143 rfl ?_
                    refine ks_iconst (x := nI 1) dX7_gatherMany_144 (by decide) rfl ?_
                    refine ks_isub dX7_gatherMany_145 rfl ?_
                    refine ks_putf (T := TX7) (kf := 18) kx_661 rfl in_X7 tyX7_ok nmX7 cl_X7 (by decide) (ks_set_same _ _ _) (Nat.le_of_ble_eq_true rfl) rfl rfl rfl rfl dX7_gatherMany_146 rfl ?_
                    refine ks_aload_n dX7_gatherMany_149 rfl rfl ?_
                    refine ks_getf (T := TX7) (kf := 17) kx_660 rfl in_X7 cl_X7 (by decide) (ks_set_same _ _ _) rfl dX7_gatherMany_150 rfl ?_
                    refine ks_aload_n dX7_gatherMany_153 rfl rfl ?_
                    refine ks_getf (T := TX7) (kf := 19) kx_662 rfl in_X7 cl_X7 (by decide) (ks_set_same _ _ _) rfl dX7_gatherMany_154 rfl ?_
                    refine ks_addN dX7_gatherMany_157 rfl ?_
                    refine ks_iconst (x := nI 3) dX7_gatherMany_158 (by decide) rfl ?_
                    refine ks_addN dX7_gatherMany_159 rfl ?_
                    refine ks_istore dX7_gatherMany_160 (by decide) rfl ?_
                    refine ks_sub [(5, _), (0, _), (1, _), (3, _)] rfl ?_
                    refine ks_aload_n dX7_gatherMany_162 rfl rfl ?_
                    refine ks_getf (T := TX7) (kf := 3) kx_646 rfl in_X7 cl_X7 (by decide) (ks_set_same _ _ _) rfl dX7_gatherMany_163 rfl ?_
                    refine ks_getf (T := TX8) (kf := 3) kx_615 rfl in_X8 cl_X8 (by decide) ((ks_set_ne _ _ (by decide)).trans ((ks_set_ne _ _ (by decide)).trans ((ks_set_ne _ _ (by decide)).trans ((ks_set_ne _ _ (by decide)).trans ((ks_set_ne _ _ (by decide)).trans hO.ob))))) rfl dX7_gatherMany_166 rfl ?_
                    refine ks_iload dX7_gatherMany_169 rfl rfl ?_
                    refine ks_icmp_geN (tgt := 178) (by omega) (by omega) dX7_gatherMany_171 (by decide) rfl (fun h11 => ?_) (fun h11 => ?_)
                    · omega
                    · refine ks_iconst (x := (-1)) dX7_gatherMany_174 (by decide) rfl ?_
                      refine ks_goto (tgt := 180) dX7_gatherMany_175 (by decide) ?_
                      refine ks_iret rfl dX7_gatherMany_180 ?_
                      rw [if_neg (by omega)]
                      exact ⟨(by repeat first | exact ks_up_set _ _ (by decide) | refine ks_up.trans ?_ (ks_up_set _ _ (by decide))), rfl, _, _, _, _, _, (ks_set_same _ _ _)⟩
                  · refine ks_aload_n dX7_gatherMany_128 rfl rfl ?_
                    refine ks_lload_n dX7_gatherMany_129 rfl rfl ?_
                    refine ks_l2iN dX7_gatherMany_130 rfl ?_
                    refine ks_putf (T := TX7) (kf := 19) kx_662 rfl in_X7 tyX7_ok nmX7 cl_X7 (by decide) (ks_set_same _ _ _) (Nat.le_of_ble_eq_true rfl) rfl rfl rfl rfl dX7_gatherMany_131 rfl ?_
                    refine ks_aload_n dX7_gatherMany_134 rfl rfl ?_
                    refine ks_aload_n dX7_gatherMany_135 rfl rfl ?_
                    refine ks_getf (T := TX7) (kf := 16) kx_659 rfl in_X7 cl_X7 (by decide) (ks_set_same _ _ _) rfl dX7_gatherMany_136 rfl ?_
                    refine ks_aload_n dX7_gatherMany_139 rfl rfl ?_
                    refine ks_getf (T := TX7) (kf := 17) kx_660 rfl in_X7 cl_X7 (by decide) (ks_set_same _ _ _) rfl dX7_gatherMany_140 rfl ?_
                    refine ks_subN (by omega) dX7_gatherMany_143 rfl ?_
                    refine ks_iconst (x := nI 1) dX7_gatherMany_144 (by decide) rfl ?_
                    refine ks_subN (by omega) dX7_gatherMany_145 rfl ?_
                    refine ks_putf (T := TX7) (kf := 18) kx_661 rfl in_X7 tyX7_ok nmX7 cl_X7 (by decide) (ks_set_same _ _ _) (Nat.le_of_ble_eq_true rfl) rfl rfl rfl rfl dX7_gatherMany_146 rfl ?_
                    refine ks_aload_n dX7_gatherMany_149 rfl rfl ?_
                    refine ks_getf (T := TX7) (kf := 17) kx_660 rfl in_X7 cl_X7 (by decide) (ks_set_same _ _ _) rfl dX7_gatherMany_150 rfl ?_
                    refine ks_aload_n dX7_gatherMany_153 rfl rfl ?_
                    refine ks_getf (T := TX7) (kf := 19) kx_662 rfl in_X7 cl_X7 (by decide) (ks_set_same _ _ _) rfl dX7_gatherMany_154 rfl ?_
                    refine ks_addN dX7_gatherMany_157 rfl ?_
                    refine ks_iconst (x := nI 3) dX7_gatherMany_158 (by decide) rfl ?_
                    refine ks_addN dX7_gatherMany_159 rfl ?_
                    refine ks_istore dX7_gatherMany_160 (by decide) rfl ?_
                    refine ks_sub [(5, _), (0, _), (1, _), (3, _)] rfl ?_
                    refine ks_aload_n dX7_gatherMany_162 rfl rfl ?_
                    refine ks_getf (T := TX7) (kf := 3) kx_646 rfl in_X7 cl_X7 (by decide) (ks_set_same _ _ _) rfl dX7_gatherMany_163 rfl ?_
                    refine ks_getf (T := TX8) (kf := 3) kx_615 rfl in_X8 cl_X8 (by decide) ((ks_set_ne _ _ (by decide)).trans ((ks_set_ne _ _ (by decide)).trans ((ks_set_ne _ _ (by decide)).trans ((ks_set_ne _ _ (by decide)).trans ((ks_set_ne _ _ (by decide)).trans hO.ob))))) rfl dX7_gatherMany_166 rfl ?_
                    refine ks_iload dX7_gatherMany_169 rfl rfl ?_
                    refine ks_icmp_geN (tgt := 178) (by omega) (by omega) dX7_gatherMany_171 (by decide) rfl (fun h11 => ?_) (fun h11 => ?_)
                    · refine ks_iload dX7_gatherMany_178 rfl rfl ?_
                      refine ks_iret rfl dX7_gatherMany_180 ?_
                      rw [if_pos (by omega)]
                      exact ⟨(by repeat first | exact ks_up_set _ _ (by decide) | refine ks_up.trans ?_ (ks_up_set _ _ (by decide))), rfl, (ks_set_same _ _ _)⟩
                    · omega
                · refine ks_iconst (x := (-1)) dX7_gatherMany_126 (by decide) rfl ?_
                  refine ks_iret rfl dX7_gatherMany_127 ?_
                  rw [j2] at h10
                  rw [if_neg (by omega)]
                  exact ⟨(by repeat first | exact ks_up_set _ _ (by decide) | refine ks_up.trans ?_ (ks_up_set _ _ (by decide))), rfl, _, _, _, _, _, (ks_set_same _ _ _)⟩
            · refine ks_iconst (x := (-1)) dX7_gatherMany_98 (by decide) rfl ?_
              refine ks_iret rfl dX7_gatherMany_99 ?_
              rw [if_neg (fun h => by have := ht7.mpr h.2; rw [h8] at this; cases this)]
              exact ⟨(by repeat first | exact ks_up_set _ _ (by decide) | refine ks_up.trans ?_ (ks_up_set _ _ (by decide))), rfl, _, _, _, _, _, (ks_set_same _ _ _)⟩
      · refine ks_iconst (x := (-1)) dX7_gatherMany_37 (by decide) rfl ?_
        refine ks_iret rfl dX7_gatherMany_38 ?_
        rw [z20, i2] at h6
        have e9 : gmS xs ops = none := by
          unfold gmS
          rw [if_pos h4, if_neg (by omega)]
        rw [e9]
        exact ⟨(ks_up.rf _ _), rfl, _, _, _, _, _, hM⟩
  · refine ks_iconst (x := (-1)) dX7_gatherMany_12 (by decide) rfl ?_
    refine ks_iret rfl dX7_gatherMany_13 ?_
    have e9 : gmS xs ops = none := by
      unfold gmS
      rw [if_neg (fun h => by have := ht.mpr h; rw [h1] at this; cases this)]
    rw [e9]
    exact ⟨(ks_up.rf _ _), rfl, _, _, _, _, _, hM⟩
