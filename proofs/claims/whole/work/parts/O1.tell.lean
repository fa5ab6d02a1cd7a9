/-! THE REFERENCE: tell, block, coin, coins -/
theorem low_l2 {x : Nat} (hx : x < 4294967296) : (nI x).toInt64 &&& lN 4294967295 = lN x := by
  rw [show lN 4294967295 = (4294967295 : Int64) from by decide]
  exact low_l hx
theorem skK.pb {S S1 : ks_S} {V V1 : Nat → Value} (h : skK S S1 V V1) : pbK [] [40, 41] S S1 V V1 := ⟨h.1, h.2.1, fun k hk => h.2.2 k (fun e => hk (by rw [e]; decide)) (fun e => hk (by rw [e]; decide))⟩
theorem gD_mem {R : List Nat} {i : Nat} (h : i < R.length) : R.getD i 0 ∈ R := by
  rw [List.getD_eq_getElem?_getD, List.getElem?_eq_getElem h]
  exact List.getElem_mem h
theorem plR_le (B : Nat → Bk) (ix : Nat) (g : Nat → Nat) (R : List Nat) : plR B ix g R ≤ R.length := by
  have := plD_b (f := fun i => rmIs B ix g (R.getD i 0)) (c := R.length) (i := 0)
  unfold plR
  omega
theorem lN_low2 {g : Nat → Nat} : lN (dg 4294967296 g 8) = lN (g 1 * 2 ^ 32 + g 0) := by
  have e : dg 4294967296 g 8 = g 1 * 2 ^ 32 + g 0 + 2 ^ 64 * (g 2 + g 3 * 2 ^ 32 + g 4 * 2 ^ 64 + g 5 * 2 ^ 96 + g 6 * 2 ^ 128 + g 7 * 2 ^ 160) := by
    simp only [dg_s, show dg 4294967296 g 0 = 0 from rfl]
    omega
  rw [e]
  show Int64.ofNat _ = Int64.ofNat _
  apply Int64.toBitVec_inj.mp
  show BitVec.ofNat 64 _ = BitVec.ofNat 64 _
  apply BitVec.eq_of_toNat_eq
  rw [BitVec.toNat_ofNat, BitVec.toNat_ofNat]
  omega
set_option maxRecDepth 100000 in
set_option maxHeartbeats 800000 in
theorem r_tell {l : Launch} {G : ks_G} {d : Nat} {S : ks_S} {V : Nat → Value} (hO : S.2.2 290 = some (rfE V)) {x : Int32} (hx : ¬ (¬ x < 0 ∧ x ≤ nI 6)) : ks_P l G yX16_tell mX16_tell (d + 1) [.ref 290, .int x] S (fun z S' => z = some (.int (nI 0)) ∧ ∃ V', pbK [] [111] S S' V V' ∧ V' 111 = .int (nI 1)) := by
  refine ks_of (by decide) rfl rfl (Nat.le_of_ble_eq_true rfl) ?_
  show ks_X l G mX16_tell (d + 1) 0 [(0, .ref 290), (1, .int x)] [] S _
  refine ks_aload_n dX16_tell_0 rfl rfl ?_
  refine ks_iload_n dX16_tell_1 rfl rfl ?_
  refine ks_if_lt (tgt := 15) dX16_tell_2 (by decide) rfl (fun hc2 => ?_) (fun hc2 => ?_)
  · refine ks_iconst (x := nI 0) dX16_tell_15 (by decide) rfl ?_
    refine ks_iconst (x := nI 1) dX16_tell_16 (by decide) rfl ?_
    refine ks_callV (n := 2) (M' := mX16_good) (c_md_good0 hO) hO cl_X16 rfl kx_2734 kx_2736 kxp_127 kx_30 kx_2737 (by decide +kernel) rfl (by decide) (Nat.le_of_ble_eq_true rfl) rfl dX16_tell_17 rfl (fun z17 S17 y17 => ?_)
    obtain ⟨rfl, V17, J17, v17⟩ := y17
    refine ks_if_neN (tgt := 25) (by decide) dX16_tell_20 (by decide) rfl (fun hc20 => ?_) (fun hc20 => ?_)
    · exact absurd hc20 (by decide)
    · refine ks_iconst (x := nI 0) dX16_tell_23 (by decide) rfl ?_
      refine ks_iret rfl dX16_tell_24 ?_
      exact ⟨rfl, _, J17, v17⟩
  · refine ks_iload_n dX16_tell_5 rfl rfl ?_
    refine ks_bipush (x := nI 6) dX16_tell_6 (by decide) rfl ?_
    refine ks_icmp_gt (tgt := 15) dX16_tell_8 (by decide) rfl (fun hc8 => ?_) (fun hc8 => ?_)
    · refine ks_iconst (x := nI 0) dX16_tell_15 (by decide) rfl ?_
      refine ks_iconst (x := nI 1) dX16_tell_16 (by decide) rfl ?_
      refine ks_callV (n := 2) (M' := mX16_good) (c_md_good0 hO) hO cl_X16 rfl kx_2734 kx_2736 kxp_127 kx_30 kx_2737 (by decide +kernel) rfl (by decide) (Nat.le_of_ble_eq_true rfl) rfl dX16_tell_17 rfl (fun z17 S17 y17 => ?_)
      obtain ⟨rfl, V17, J17, v17⟩ := y17
      refine ks_if_neN (tgt := 25) (by decide) dX16_tell_20 (by decide) rfl (fun hc20 => ?_) (fun hc20 => ?_)
      · exact absurd hc20 (by decide)
      · refine ks_iconst (x := nI 0) dX16_tell_23 (by decide) rfl ?_
        refine ks_iret rfl dX16_tell_24 ?_
        exact ⟨rfl, _, J17, v17⟩
    · refine ks_iconst (x := nI 1) dX16_tell_11 (by decide) rfl ?_
      refine ks_goto (tgt := 16) dX16_tell_12 (by decide) ?_
      refine ks_iconst (x := nI 1) dX16_tell_16 (by decide) rfl ?_
      exact absurd ⟨hc2, Int32.not_lt.mp hc8⟩ hx
set_option maxRecDepth 100000 in
set_option maxHeartbeats 800000 in
theorem c_mr_tell0 {l : Launch} {G : ks_G} {d : Nat} {S : ks_S} {V : Nat → Value} (hO : S.2.2 290 = some (rfE V)) {T : List Nat} (hB : buX S V 531 1600 110 T) : ks_P l G yX16_tell mX16_tell (d + 1) [.ref 290, .int (nI 0)] S (fun z S' => z = some (.int (nI T.length)) ∧ ∃ V', pbK [] [111] S S' V V' ∧ V' 111 = .int (nI 0)) := by
  obtain ⟨vT, g, eT, kg, hT, em⟩ := id hB
  refine ks_of (by decide) rfl rfl (Nat.le_of_ble_eq_true rfl) ?_
  show ks_X l G mX16_tell (d + 1) 0 [(0, .ref 290), (1, .int (nI 0))] [] S _
  refine ks_aload_n dX16_tell_0 rfl rfl ?_
  refine ks_iload_n dX16_tell_1 rfl rfl ?_
  refine ks_if_ltN (tgt := 15) (by decide) dX16_tell_2 (by decide) rfl ?_
  refine ks_iload_n dX16_tell_5 rfl rfl ?_
  refine ks_bipush (x := nI 6) dX16_tell_6 (by decide) rfl ?_
  refine ks_icmp_gtN (tgt := 15) (by decide) (by decide) dX16_tell_8 (by decide) rfl (fun hc8 => ?_) (fun hc8 => ?_)
  · exact absurd hc8 (by decide)
  · refine ks_iconst (x := nI 1) dX16_tell_11 (by decide) rfl ?_
    refine ks_goto (tgt := 16) dX16_tell_12 (by decide) ?_
    refine ks_iconst (x := nI 1) dX16_tell_16 (by decide) rfl ?_
    refine ks_callV (n := 2) (M' := mX16_good) (c_md_good1 hO) hO cl_X16 rfl kx_2734 kx_2736 kxp_127 kx_30 kx_2737 (by decide +kernel) rfl (by decide) (Nat.le_of_ble_eq_true rfl) rfl dX16_tell_17 rfl (fun z17 S17 y17 => ?_)
    obtain ⟨rfl, V17, J17, v17⟩ := y17
    refine ks_if_neN (tgt := 25) (by decide) dX16_tell_20 (by decide) rfl (fun hc20 => ?_) (fun hc20 => ?_)
    · refine ks_iload_n dX16_tell_25 rfl rfl ?_
      refine ks_if_neN (tgt := 36) (by decide) dX16_tell_26 (by decide) rfl (fun hc26 => ?_) (fun hc26 => ?_)
      · exact absurd hc26 (by decide)
      · refine ks_aload_n dX16_tell_29 rfl rfl ?_
        refine ks_getf (T := TX16) (kf := 110) kx_2478 rfl in_X16 cl_X16 (by decide) J17.2.1 rfl dX16_tell_30 rfl ?_
        refine ks_tv ((J17.2.2 110 (by decide)).trans vT) ?_
        refine ks_goto (tgt := 108) dX16_tell_33 (by decide) ?_
        refine ks_iret rfl dX16_tell_108 ?_
        exact ⟨rfl, _, J17, v17⟩
    · exact absurd hc20 (by decide)
set_option maxRecDepth 100000 in
set_option maxHeartbeats 800000 in
theorem c_mr_tell1 {l : Launch} {G : ks_G} {d : Nat} {S : ks_S} {V : Nat → Value} (hO : S.2.2 290 = some (rfE V)) {rs : Int32} (v55 : V 55 = .int rs) : ks_P l G yX16_tell mX16_tell (d + 1) [.ref 290, .int (nI 1)] S (fun z S' => z = some (.int rs) ∧ ∃ V', pbK [] [111] S S' V V' ∧ V' 111 = .int (nI 0)) := by
  refine ks_of (by decide) rfl rfl (Nat.le_of_ble_eq_true rfl) ?_
  show ks_X l G mX16_tell (d + 1) 0 [(0, .ref 290), (1, .int (nI 1))] [] S _
  refine ks_aload_n dX16_tell_0 rfl rfl ?_
  refine ks_iload_n dX16_tell_1 rfl rfl ?_
  refine ks_if_ltN (tgt := 15) (by decide) dX16_tell_2 (by decide) rfl ?_
  refine ks_iload_n dX16_tell_5 rfl rfl ?_
  refine ks_bipush (x := nI 6) dX16_tell_6 (by decide) rfl ?_
  refine ks_icmp_gtN (tgt := 15) (by decide) (by decide) dX16_tell_8 (by decide) rfl (fun hc8 => ?_) (fun hc8 => ?_)
  · exact absurd hc8 (by decide)
  · refine ks_iconst (x := nI 1) dX16_tell_11 (by decide) rfl ?_
    refine ks_goto (tgt := 16) dX16_tell_12 (by decide) ?_
    refine ks_iconst (x := nI 1) dX16_tell_16 (by decide) rfl ?_
    refine ks_callV (n := 2) (M' := mX16_good) (c_md_good1 hO) hO cl_X16 rfl kx_2734 kx_2736 kxp_127 kx_30 kx_2737 (by decide +kernel) rfl (by decide) (Nat.le_of_ble_eq_true rfl) rfl dX16_tell_17 rfl (fun z17 S17 y17 => ?_)
    obtain ⟨rfl, V17, J17, v17⟩ := y17
    refine ks_if_neN (tgt := 25) (by decide) dX16_tell_20 (by decide) rfl (fun hc20 => ?_) (fun hc20 => ?_)
    · refine ks_iload_n dX16_tell_25 rfl rfl ?_
      refine ks_if_neN (tgt := 36) (by decide) dX16_tell_26 (by decide) rfl (fun hc26 => ?_) (fun hc26 => ?_)
      · refine ks_iload_n dX16_tell_36 rfl rfl ?_
        refine ks_iconst (x := nI 1) dX16_tell_37 (by decide) rfl ?_
        refine ks_icmp_neN (tgt := 48) (by decide) (by decide) dX16_tell_38 (by decide) rfl (fun hc38 => ?_) (fun hc38 => ?_)
        · exact absurd hc38 (by decide)
        · refine ks_aload_n dX16_tell_41 rfl rfl ?_
          refine ks_getf (T := TX16) (kf := 55) kx_2423 rfl in_X16 cl_X16 (by decide) J17.2.1 rfl dX16_tell_42 rfl ?_
          refine ks_tv ((J17.2.2 55 (by decide)).trans v55) ?_
          refine ks_goto (tgt := 108) dX16_tell_45 (by decide) ?_
          refine ks_iret rfl dX16_tell_108 ?_
          exact ⟨rfl, _, J17, v17⟩
      · exact absurd hc26 (by decide)
    · exact absurd hc20 (by decide)
set_option maxRecDepth 100000 in
set_option maxHeartbeats 800000 in
theorem c_mr_tell2 {l : Launch} {G : ks_G} {d : Nat} {S : ks_S} {V : Nat → Value} (hO : S.2.2 290 = some (rfE V)) {n : Nat} (v47 : V 47 = .int (nI n)) : ks_P l G yX16_tell mX16_tell (d + 1) [.ref 290, .int (nI 2)] S (fun z S' => z = some (.int (nI n)) ∧ ∃ V', pbK [] [111] S S' V V' ∧ V' 111 = .int (nI 0)) := by
  refine ks_of (by decide) rfl rfl (Nat.le_of_ble_eq_true rfl) ?_
  show ks_X l G mX16_tell (d + 1) 0 [(0, .ref 290), (1, .int (nI 2))] [] S _
  refine ks_aload_n dX16_tell_0 rfl rfl ?_
  refine ks_iload_n dX16_tell_1 rfl rfl ?_
  refine ks_if_ltN (tgt := 15) (by decide) dX16_tell_2 (by decide) rfl ?_
  refine ks_iload_n dX16_tell_5 rfl rfl ?_
  refine ks_bipush (x := nI 6) dX16_tell_6 (by decide) rfl ?_
  refine ks_icmp_gtN (tgt := 15) (by decide) (by decide) dX16_tell_8 (by decide) rfl (fun hc8 => ?_) (fun hc8 => ?_)
  · exact absurd hc8 (by decide)
  · refine ks_iconst (x := nI 1) dX16_tell_11 (by decide) rfl ?_
    refine ks_goto (tgt := 16) dX16_tell_12 (by decide) ?_
    refine ks_iconst (x := nI 1) dX16_tell_16 (by decide) rfl ?_
    refine ks_callV (n := 2) (M' := mX16_good) (c_md_good1 hO) hO cl_X16 rfl kx_2734 kx_2736 kxp_127 kx_30 kx_2737 (by decide +kernel) rfl (by decide) (Nat.le_of_ble_eq_true rfl) rfl dX16_tell_17 rfl (fun z17 S17 y17 => ?_)
    obtain ⟨rfl, V17, J17, v17⟩ := y17
    refine ks_if_neN (tgt := 25) (by decide) dX16_tell_20 (by decide) rfl (fun hc20 => ?_) (fun hc20 => ?_)
    · refine ks_iload_n dX16_tell_25 rfl rfl ?_
      refine ks_if_neN (tgt := 36) (by decide) dX16_tell_26 (by decide) rfl (fun hc26 => ?_) (fun hc26 => ?_)
      · refine ks_iload_n dX16_tell_36 rfl rfl ?_
        refine ks_iconst (x := nI 1) dX16_tell_37 (by decide) rfl ?_
        refine ks_icmp_neN (tgt := 48) (by decide) (by decide) dX16_tell_38 (by decide) rfl (fun hc38 => ?_) (fun hc38 => ?_)
        · refine ks_iload_n dX16_tell_48 rfl rfl ?_
          refine ks_iconst (x := nI 2) dX16_tell_49 (by decide) rfl ?_
          refine ks_icmp_neN (tgt := 60) (by decide) (by decide) dX16_tell_50 (by decide) rfl (fun hc50 => ?_) (fun hc50 => ?_)
          · exact absurd hc50 (by decide)
          · refine ks_aload_n dX16_tell_53 rfl rfl ?_
            refine ks_getf (T := TX16) (kf := 47) kx_2415 rfl in_X16 cl_X16 (by decide) J17.2.1 rfl dX16_tell_54 rfl ?_
            refine ks_tv ((J17.2.2 47 (by decide)).trans v47) ?_
            refine ks_goto (tgt := 108) dX16_tell_57 (by decide) ?_
            refine ks_iret rfl dX16_tell_108 ?_
            exact ⟨rfl, _, J17, v17⟩
        · exact absurd hc38 (by decide)
      · exact absurd hc26 (by decide)
    · exact absurd hc20 (by decide)
set_option maxRecDepth 100000 in
set_option maxHeartbeats 800000 in
theorem c_mr_tell3 {l : Launch} {G : ks_G} {d : Nat} {S : ks_S} {V : Nat → Value} (hO : S.2.2 290 = some (rfE V)) {best : Nat} (v48 : V 48 = .int (nI best)) : ks_P l G yX16_tell mX16_tell (d + 1) [.ref 290, .int (nI 3)] S (fun z S' => z = some (.int (nI best)) ∧ ∃ V', pbK [] [111] S S' V V' ∧ V' 111 = .int (nI 0)) := by
  refine ks_of (by decide) rfl rfl (Nat.le_of_ble_eq_true rfl) ?_
  show ks_X l G mX16_tell (d + 1) 0 [(0, .ref 290), (1, .int (nI 3))] [] S _
  refine ks_aload_n dX16_tell_0 rfl rfl ?_
  refine ks_iload_n dX16_tell_1 rfl rfl ?_
  refine ks_if_ltN (tgt := 15) (by decide) dX16_tell_2 (by decide) rfl ?_
  refine ks_iload_n dX16_tell_5 rfl rfl ?_
  refine ks_bipush (x := nI 6) dX16_tell_6 (by decide) rfl ?_
  refine ks_icmp_gtN (tgt := 15) (by decide) (by decide) dX16_tell_8 (by decide) rfl (fun hc8 => ?_) (fun hc8 => ?_)
  · exact absurd hc8 (by decide)
  · refine ks_iconst (x := nI 1) dX16_tell_11 (by decide) rfl ?_
    refine ks_goto (tgt := 16) dX16_tell_12 (by decide) ?_
    refine ks_iconst (x := nI 1) dX16_tell_16 (by decide) rfl ?_
    refine ks_callV (n := 2) (M' := mX16_good) (c_md_good1 hO) hO cl_X16 rfl kx_2734 kx_2736 kxp_127 kx_30 kx_2737 (by decide +kernel) rfl (by decide) (Nat.le_of_ble_eq_true rfl) rfl dX16_tell_17 rfl (fun z17 S17 y17 => ?_)
    obtain ⟨rfl, V17, J17, v17⟩ := y17
    refine ks_if_neN (tgt := 25) (by decide) dX16_tell_20 (by decide) rfl (fun hc20 => ?_) (fun hc20 => ?_)
    · refine ks_iload_n dX16_tell_25 rfl rfl ?_
      refine ks_if_neN (tgt := 36) (by decide) dX16_tell_26 (by decide) rfl (fun hc26 => ?_) (fun hc26 => ?_)
      · refine ks_iload_n dX16_tell_36 rfl rfl ?_
        refine ks_iconst (x := nI 1) dX16_tell_37 (by decide) rfl ?_
        refine ks_icmp_neN (tgt := 48) (by decide) (by decide) dX16_tell_38 (by decide) rfl (fun hc38 => ?_) (fun hc38 => ?_)
        · refine ks_iload_n dX16_tell_48 rfl rfl ?_
          refine ks_iconst (x := nI 2) dX16_tell_49 (by decide) rfl ?_
          refine ks_icmp_neN (tgt := 60) (by decide) (by decide) dX16_tell_50 (by decide) rfl (fun hc50 => ?_) (fun hc50 => ?_)
          · refine ks_iload_n dX16_tell_60 rfl rfl ?_
            refine ks_iconst (x := nI 3) dX16_tell_61 (by decide) rfl ?_
            refine ks_icmp_neN (tgt := 72) (by decide) (by decide) dX16_tell_62 (by decide) rfl (fun hc62 => ?_) (fun hc62 => ?_)
            · exact absurd hc62 (by decide)
            · refine ks_aload_n dX16_tell_65 rfl rfl ?_
              refine ks_getf (T := TX16) (kf := 48) kx_2416 rfl in_X16 cl_X16 (by decide) J17.2.1 rfl dX16_tell_66 rfl ?_
              refine ks_tv ((J17.2.2 48 (by decide)).trans v48) ?_
              refine ks_goto (tgt := 108) dX16_tell_69 (by decide) ?_
              refine ks_iret rfl dX16_tell_108 ?_
              exact ⟨rfl, _, J17, v17⟩
          · exact absurd hc50 (by decide)
        · exact absurd hc38 (by decide)
      · exact absurd hc26 (by decide)
    · exact absurd hc20 (by decide)
set_option maxRecDepth 100000 in
set_option maxHeartbeats 800000 in
theorem c_mr_tell4 {l : Launch} {G : ks_G} {d : Nat} {S : ks_S} {V : Nat → Value} (hO : S.2.2 290 = some (rfE V)) {n best : Nat} {B : Nat → Bk} (v48 : V 48 = .int (nI best)) (hR : rbS S n B) (hbe : best < n) : ks_P l G yX16_tell mX16_tell (d + 1) [.ref 290, .int (nI 4)] S (fun z S' => z = some (.int (nI (bkH (B best)))) ∧ ∃ V', pbK [] [111] S S' V V' ∧ V' 111 = .int (nI 0)) := by
  obtain ⟨⟨bf, h341, hbf⟩, hB9, hn61⟩ := id hR
  obtain ⟨ob, pdb, ⟨ghb, ehb, khb, ahb⟩, wkb, bdb⟩ := hB9 best (by omega)
  refine ks_of (by decide) rfl rfl (Nat.le_of_ble_eq_true rfl) ?_
  show ks_X l G mX16_tell (d + 1) 0 [(0, .ref 290), (1, .int (nI 4))] [] S _
  refine ks_aload_n dX16_tell_0 rfl rfl ?_
  refine ks_iload_n dX16_tell_1 rfl rfl ?_
  refine ks_if_ltN (tgt := 15) (by decide) dX16_tell_2 (by decide) rfl ?_
  refine ks_iload_n dX16_tell_5 rfl rfl ?_
  refine ks_bipush (x := nI 6) dX16_tell_6 (by decide) rfl ?_
  refine ks_icmp_gtN (tgt := 15) (by decide) (by decide) dX16_tell_8 (by decide) rfl (fun hc8 => ?_) (fun hc8 => ?_)
  · exact absurd hc8 (by decide)
  · refine ks_iconst (x := nI 1) dX16_tell_11 (by decide) rfl ?_
    refine ks_goto (tgt := 16) dX16_tell_12 (by decide) ?_
    refine ks_iconst (x := nI 1) dX16_tell_16 (by decide) rfl ?_
    refine ks_callV (n := 2) (M' := mX16_good) (c_md_good1 hO) hO cl_X16 rfl kx_2734 kx_2736 kxp_127 kx_30 kx_2737 (by decide +kernel) rfl (by decide) (Nat.le_of_ble_eq_true rfl) rfl dX16_tell_17 rfl (fun z17 S17 y17 => ?_)
    obtain ⟨rfl, V17, J17, v17⟩ := y17
    refine ks_if_neN (tgt := 25) (by decide) dX16_tell_20 (by decide) rfl (fun hc20 => ?_) (fun hc20 => ?_)
    · refine ks_iload_n dX16_tell_25 rfl rfl ?_
      refine ks_if_neN (tgt := 36) (by decide) dX16_tell_26 (by decide) rfl (fun hc26 => ?_) (fun hc26 => ?_)
      · refine ks_iload_n dX16_tell_36 rfl rfl ?_
        refine ks_iconst (x := nI 1) dX16_tell_37 (by decide) rfl ?_
        refine ks_icmp_neN (tgt := 48) (by decide) (by decide) dX16_tell_38 (by decide) rfl (fun hc38 => ?_) (fun hc38 => ?_)
        · refine ks_iload_n dX16_tell_48 rfl rfl ?_
          refine ks_iconst (x := nI 2) dX16_tell_49 (by decide) rfl ?_
          refine ks_icmp_neN (tgt := 60) (by decide) (by decide) dX16_tell_50 (by decide) rfl (fun hc50 => ?_) (fun hc50 => ?_)
          · refine ks_iload_n dX16_tell_60 rfl rfl ?_
            refine ks_iconst (x := nI 3) dX16_tell_61 (by decide) rfl ?_
            refine ks_icmp_neN (tgt := 72) (by decide) (by decide) dX16_tell_62 (by decide) rfl (fun hc62 => ?_) (fun hc62 => ?_)
            · refine ks_iload_n dX16_tell_72 rfl rfl ?_
              refine ks_iconst (x := nI 4) dX16_tell_73 (by decide) rfl ?_
              refine ks_icmp_neN (tgt := 92) (by decide) (by decide) dX16_tell_74 (by decide) rfl (fun hc74 => ?_) (fun hc74 => ?_)
              · exact absurd hc74 (by decide)
              · refine ks_aload_n dX16_tell_77 rfl rfl ?_
                refine ks_getf (T := TX16) (kf := 46) kx_2414 rfl in_X16 cl_X16 (by decide) J17.2.1 rfl dX16_tell_78 rfl ?_
                refine ks_aload_n dX16_tell_81 rfl rfl ?_
                refine ks_getf (T := TX16) (kf := 48) kx_2416 rfl in_X16 cl_X16 (by decide) J17.2.1 rfl dX16_tell_82 rfl ?_
                refine ks_tv ((J17.2.2 48 (by decide)).trans v48) ?_
                refine ks_aaldN (i := best) (b := (bkN (B best))) (by decide) (J17.1.at h341 (by decide)) rfl (by omega) (by decide) (hbf best (by omega)) dX16_tell_85 rfl ?_
                refine ks_getN (T := TX12) (kf := 4) kx_2064 rfl in_X12 cl_X12 (by decide) (J17.1.at ob (by simp only [List.mem_cons, List.not_mem_nil, or_false]; omega)) rfl dX16_tell_86 rfl ?_
                refine ks_goto (tgt := 108) dX16_tell_89 (by decide) ?_
                refine ks_iret rfl dX16_tell_108 ?_
                exact ⟨rfl, _, J17, v17⟩
            · exact absurd hc62 (by decide)
          · exact absurd hc50 (by decide)
        · exact absurd hc38 (by decide)
      · exact absurd hc26 (by decide)
    · exact absurd hc20 (by decide)
set_option maxRecDepth 100000 in
set_option maxHeartbeats 800000 in
theorem c_mr_tell5 {l : Launch} {G : ks_G} {d : Nat} {S : ks_S} {V : Nat → Value} (hO : S.2.2 290 = some (rfE V)) {m : Nat} (v50 : V 50 = .int (nI m)) : ks_P l G yX16_tell mX16_tell (d + 1) [.ref 290, .int (nI 5)] S (fun z S' => z = some (.int (nI m)) ∧ ∃ V', pbK [] [111] S S' V V' ∧ V' 111 = .int (nI 0)) := by
  refine ks_of (by decide) rfl rfl (Nat.le_of_ble_eq_true rfl) ?_
  show ks_X l G mX16_tell (d + 1) 0 [(0, .ref 290), (1, .int (nI 5))] [] S _
  refine ks_aload_n dX16_tell_0 rfl rfl ?_
  refine ks_iload_n dX16_tell_1 rfl rfl ?_
  refine ks_if_ltN (tgt := 15) (by decide) dX16_tell_2 (by decide) rfl ?_
  refine ks_iload_n dX16_tell_5 rfl rfl ?_
  refine ks_bipush (x := nI 6) dX16_tell_6 (by decide) rfl ?_
  refine ks_icmp_gtN (tgt := 15) (by decide) (by decide) dX16_tell_8 (by decide) rfl (fun hc8 => ?_) (fun hc8 => ?_)
  · exact absurd hc8 (by decide)
  · refine ks_iconst (x := nI 1) dX16_tell_11 (by decide) rfl ?_
    refine ks_goto (tgt := 16) dX16_tell_12 (by decide) ?_
    refine ks_iconst (x := nI 1) dX16_tell_16 (by decide) rfl ?_
    refine ks_callV (n := 2) (M' := mX16_good) (c_md_good1 hO) hO cl_X16 rfl kx_2734 kx_2736 kxp_127 kx_30 kx_2737 (by decide +kernel) rfl (by decide) (Nat.le_of_ble_eq_true rfl) rfl dX16_tell_17 rfl (fun z17 S17 y17 => ?_)
    obtain ⟨rfl, V17, J17, v17⟩ := y17
    refine ks_if_neN (tgt := 25) (by decide) dX16_tell_20 (by decide) rfl (fun hc20 => ?_) (fun hc20 => ?_)
    · refine ks_iload_n dX16_tell_25 rfl rfl ?_
      refine ks_if_neN (tgt := 36) (by decide) dX16_tell_26 (by decide) rfl (fun hc26 => ?_) (fun hc26 => ?_)
      · refine ks_iload_n dX16_tell_36 rfl rfl ?_
        refine ks_iconst (x := nI 1) dX16_tell_37 (by decide) rfl ?_
        refine ks_icmp_neN (tgt := 48) (by decide) (by decide) dX16_tell_38 (by decide) rfl (fun hc38 => ?_) (fun hc38 => ?_)
        · refine ks_iload_n dX16_tell_48 rfl rfl ?_
          refine ks_iconst (x := nI 2) dX16_tell_49 (by decide) rfl ?_
          refine ks_icmp_neN (tgt := 60) (by decide) (by decide) dX16_tell_50 (by decide) rfl (fun hc50 => ?_) (fun hc50 => ?_)
          · refine ks_iload_n dX16_tell_60 rfl rfl ?_
            refine ks_iconst (x := nI 3) dX16_tell_61 (by decide) rfl ?_
            refine ks_icmp_neN (tgt := 72) (by decide) (by decide) dX16_tell_62 (by decide) rfl (fun hc62 => ?_) (fun hc62 => ?_)
            · refine ks_iload_n dX16_tell_72 rfl rfl ?_
              refine ks_iconst (x := nI 4) dX16_tell_73 (by decide) rfl ?_
              refine ks_icmp_neN (tgt := 92) (by decide) (by decide) dX16_tell_74 (by decide) rfl (fun hc74 => ?_) (fun hc74 => ?_)
              · refine ks_iload_n dX16_tell_92 rfl rfl ?_
                refine ks_iconst (x := nI 5) dX16_tell_93 (by decide) rfl ?_
                refine ks_icmp_neN (tgt := 104) (by decide) (by decide) dX16_tell_94 (by decide) rfl (fun hc94 => ?_) (fun hc94 => ?_)
                · exact absurd hc94 (by decide)
                · refine ks_aload_n dX16_tell_97 rfl rfl ?_
                  refine ks_getf (T := TX16) (kf := 50) kx_2418 rfl in_X16 cl_X16 (by decide) J17.2.1 rfl dX16_tell_98 rfl ?_
                  refine ks_tv ((J17.2.2 50 (by decide)).trans v50) ?_
                  refine ks_goto (tgt := 108) dX16_tell_101 (by decide) ?_
                  refine ks_iret rfl dX16_tell_108 ?_
                  exact ⟨rfl, _, J17, v17⟩
              · exact absurd hc74 (by decide)
            · exact absurd hc62 (by decide)
          · exact absurd hc50 (by decide)
        · exact absurd hc38 (by decide)
      · exact absurd hc26 (by decide)
    · exact absurd hc20 (by decide)
set_option maxRecDepth 100000 in
set_option maxHeartbeats 800000 in
theorem c_mr_tell6 {l : Launch} {G : ks_G} {d : Nat} {S : ks_S} {V : Nat → Value} (hO : S.2.2 290 = some (rfE V)) {t : Nat} (v94 : V 94 = .int (nI t)) : ks_P l G yX16_tell mX16_tell (d + 1) [.ref 290, .int (nI 6)] S (fun z S' => z = some (.int (nI t)) ∧ ∃ V', pbK [] [111] S S' V V' ∧ V' 111 = .int (nI 0)) := by
  refine ks_of (by decide) rfl rfl (Nat.le_of_ble_eq_true rfl) ?_
  show ks_X l G mX16_tell (d + 1) 0 [(0, .ref 290), (1, .int (nI 6))] [] S _
  refine ks_aload_n dX16_tell_0 rfl rfl ?_
  refine ks_iload_n dX16_tell_1 rfl rfl ?_
  refine ks_if_ltN (tgt := 15) (by decide) dX16_tell_2 (by decide) rfl ?_
  refine ks_iload_n dX16_tell_5 rfl rfl ?_
  refine ks_bipush (x := nI 6) dX16_tell_6 (by decide) rfl ?_
  refine ks_icmp_gtN (tgt := 15) (by decide) (by decide) dX16_tell_8 (by decide) rfl (fun hc8 => ?_) (fun hc8 => ?_)
  · exact absurd hc8 (by decide)
  · refine ks_iconst (x := nI 1) dX16_tell_11 (by decide) rfl ?_
    refine ks_goto (tgt := 16) dX16_tell_12 (by decide) ?_
    refine ks_iconst (x := nI 1) dX16_tell_16 (by decide) rfl ?_
    refine ks_callV (n := 2) (M' := mX16_good) (c_md_good1 hO) hO cl_X16 rfl kx_2734 kx_2736 kxp_127 kx_30 kx_2737 (by decide +kernel) rfl (by decide) (Nat.le_of_ble_eq_true rfl) rfl dX16_tell_17 rfl (fun z17 S17 y17 => ?_)
    obtain ⟨rfl, V17, J17, v17⟩ := y17
    refine ks_if_neN (tgt := 25) (by decide) dX16_tell_20 (by decide) rfl (fun hc20 => ?_) (fun hc20 => ?_)
    · refine ks_iload_n dX16_tell_25 rfl rfl ?_
      refine ks_if_neN (tgt := 36) (by decide) dX16_tell_26 (by decide) rfl (fun hc26 => ?_) (fun hc26 => ?_)
      · refine ks_iload_n dX16_tell_36 rfl rfl ?_
        refine ks_iconst (x := nI 1) dX16_tell_37 (by decide) rfl ?_
        refine ks_icmp_neN (tgt := 48) (by decide) (by decide) dX16_tell_38 (by decide) rfl (fun hc38 => ?_) (fun hc38 => ?_)
        · refine ks_iload_n dX16_tell_48 rfl rfl ?_
          refine ks_iconst (x := nI 2) dX16_tell_49 (by decide) rfl ?_
          refine ks_icmp_neN (tgt := 60) (by decide) (by decide) dX16_tell_50 (by decide) rfl (fun hc50 => ?_) (fun hc50 => ?_)
          · refine ks_iload_n dX16_tell_60 rfl rfl ?_
            refine ks_iconst (x := nI 3) dX16_tell_61 (by decide) rfl ?_
            refine ks_icmp_neN (tgt := 72) (by decide) (by decide) dX16_tell_62 (by decide) rfl (fun hc62 => ?_) (fun hc62 => ?_)
            · refine ks_iload_n dX16_tell_72 rfl rfl ?_
              refine ks_iconst (x := nI 4) dX16_tell_73 (by decide) rfl ?_
              refine ks_icmp_neN (tgt := 92) (by decide) (by decide) dX16_tell_74 (by decide) rfl (fun hc74 => ?_) (fun hc74 => ?_)
              · refine ks_iload_n dX16_tell_92 rfl rfl ?_
                refine ks_iconst (x := nI 5) dX16_tell_93 (by decide) rfl ?_
                refine ks_icmp_neN (tgt := 104) (by decide) (by decide) dX16_tell_94 (by decide) rfl (fun hc94 => ?_) (fun hc94 => ?_)
                · refine ks_aload_n dX16_tell_104 rfl rfl ?_
                  refine ks_getf (T := TX16) (kf := 94) kx_2462 rfl in_X16 cl_X16 (by decide) J17.2.1 rfl dX16_tell_105 rfl ?_
                  refine ks_tv ((J17.2.2 94 (by decide)).trans v94) ?_
                  refine ks_iret rfl dX16_tell_108 ?_
                  exact ⟨rfl, _, J17, v17⟩
                · exact absurd hc94 (by decide)
              · exact absurd hc74 (by decide)
            · exact absurd hc62 (by decide)
          · exact absurd hc50 (by decide)
        · exact absurd hc38 (by decide)
      · exact absurd hc26 (by decide)
    · exact absurd hc20 (by decide)
set_option maxRecDepth 100000 in
set_option maxHeartbeats 800000 in
theorem r_block {l : Launch} {G : ks_G} {d : Nat} {S : ks_S} {V : Nat → Value} (hO : S.2.2 290 = some (rfE V)) {n : Nat} {x y : Int32} (v47 : V 47 = .int (nI n)) (hx : ¬ (¬ x < 0 ∧ x < nI n)) : ks_P l G yX16_block mX16_block (d + 1) [.ref 290, .int x, .int y] S (fun z S' => z = some (.long (lN 0)) ∧ ∃ V', pbK [] [111] S S' V V' ∧ V' 111 = .int (nI 1)) := by
  refine ks_of (by decide) rfl rfl (Nat.le_of_ble_eq_true rfl) ?_
  show ks_X l G mX16_block (d + 1) 0 [(0, .ref 290), (1, .int x), (2, .int y)] [] S _
  refine ks_aload_n dX16_block_0 rfl rfl ?_
  refine ks_iload_n dX16_block_1 rfl rfl ?_
  refine ks_if_lt (tgt := 27) dX16_block_2 (by decide) rfl (fun hc2 => ?_) (fun hc2 => ?_)
  · refine ks_iconst (x := nI 0) dX16_block_27 (by decide) rfl ?_
    refine ks_iconst (x := nI 1) dX16_block_28 (by decide) rfl ?_
    refine ks_callV (n := 2) (M' := mX16_good) (c_md_good0 hO) hO cl_X16 rfl kx_2734 kx_2736 kxp_127 kx_30 kx_2737 (by decide +kernel) rfl (by decide) (Nat.le_of_ble_eq_true rfl) rfl dX16_block_29 rfl (fun z29 S29 y29 => ?_)
    obtain ⟨rfl, V29, J29, v29⟩ := y29
    refine ks_if_neN (tgt := 37) (by decide) dX16_block_32 (by decide) rfl (fun hc32 => ?_) (fun hc32 => ?_)
    · exact absurd hc32 (by decide)
    · refine ks_lconst (x := lN 0) dX16_block_35 (by decide) rfl ?_
      refine ks_lret rfl dX16_block_36 ?_
      exact ⟨rfl, _, J29, v29⟩
  · refine ks_iload_n dX16_block_5 rfl rfl ?_
    refine ks_aload_n dX16_block_6 rfl rfl ?_
    refine ks_getf (T := TX16) (kf := 47) kx_2415 rfl in_X16 cl_X16 (by decide) hO rfl dX16_block_7 rfl ?_
    refine ks_tv v47 ?_
    refine ks_icmp_ge (tgt := 27) dX16_block_10 (by decide) rfl (fun hc10 => ?_) (fun hc10 => ?_)
    · refine ks_iconst (x := nI 0) dX16_block_27 (by decide) rfl ?_
      refine ks_iconst (x := nI 1) dX16_block_28 (by decide) rfl ?_
      refine ks_callV (n := 2) (M' := mX16_good) (c_md_good0 hO) hO cl_X16 rfl kx_2734 kx_2736 kxp_127 kx_30 kx_2737 (by decide +kernel) rfl (by decide) (Nat.le_of_ble_eq_true rfl) rfl dX16_block_29 rfl (fun z29 S29 y29 => ?_)
      obtain ⟨rfl, V29, J29, v29⟩ := y29
      refine ks_if_neN (tgt := 37) (by decide) dX16_block_32 (by decide) rfl (fun hc32 => ?_) (fun hc32 => ?_)
      · exact absurd hc32 (by decide)
      · refine ks_lconst (x := lN 0) dX16_block_35 (by decide) rfl ?_
        refine ks_lret rfl dX16_block_36 ?_
        exact ⟨rfl, _, J29, v29⟩
    · refine ks_iload_n dX16_block_13 rfl rfl ?_
      refine ks_if_lt (tgt := 27) dX16_block_14 (by decide) rfl (fun hc14 => ?_) (fun hc14 => ?_)
      · refine ks_iconst (x := nI 0) dX16_block_27 (by decide) rfl ?_
        refine ks_iconst (x := nI 1) dX16_block_28 (by decide) rfl ?_
        refine ks_callV (n := 2) (M' := mX16_good) (c_md_good0 hO) hO cl_X16 rfl kx_2734 kx_2736 kxp_127 kx_30 kx_2737 (by decide +kernel) rfl (by decide) (Nat.le_of_ble_eq_true rfl) rfl dX16_block_29 rfl (fun z29 S29 y29 => ?_)
        obtain ⟨rfl, V29, J29, v29⟩ := y29
        refine ks_if_neN (tgt := 37) (by decide) dX16_block_32 (by decide) rfl (fun hc32 => ?_) (fun hc32 => ?_)
        · exact absurd hc32 (by decide)
        · refine ks_lconst (x := lN 0) dX16_block_35 (by decide) rfl ?_
          refine ks_lret rfl dX16_block_36 ?_
          exact ⟨rfl, _, J29, v29⟩
      · refine ks_iload_n dX16_block_17 rfl rfl ?_
        refine ks_bipush (x := nI 8) dX16_block_18 (by decide) rfl ?_
        refine ks_icmp_gt (tgt := 27) dX16_block_20 (by decide) rfl (fun hc20 => ?_) (fun hc20 => ?_)
        · refine ks_iconst (x := nI 0) dX16_block_27 (by decide) rfl ?_
          refine ks_iconst (x := nI 1) dX16_block_28 (by decide) rfl ?_
          refine ks_callV (n := 2) (M' := mX16_good) (c_md_good0 hO) hO cl_X16 rfl kx_2734 kx_2736 kxp_127 kx_30 kx_2737 (by decide +kernel) rfl (by decide) (Nat.le_of_ble_eq_true rfl) rfl dX16_block_29 rfl (fun z29 S29 y29 => ?_)
          obtain ⟨rfl, V29, J29, v29⟩ := y29
          refine ks_if_neN (tgt := 37) (by decide) dX16_block_32 (by decide) rfl (fun hc32 => ?_) (fun hc32 => ?_)
          · exact absurd hc32 (by decide)
          · refine ks_lconst (x := lN 0) dX16_block_35 (by decide) rfl ?_
            refine ks_lret rfl dX16_block_36 ?_
            exact ⟨rfl, _, J29, v29⟩
        · refine ks_iconst (x := nI 1) dX16_block_23 (by decide) rfl ?_
          refine ks_goto (tgt := 28) dX16_block_24 (by decide) ?_
          refine ks_iconst (x := nI 1) dX16_block_28 (by decide) rfl ?_
          exact absurd ⟨hc2, Int32.not_le.mp hc10⟩ hx
set_option maxRecDepth 100000 in
set_option maxHeartbeats 800000 in
theorem r_blockW {l : Launch} {G : ks_G} {d : Nat} {S : ks_S} {V : Nat → Value} (hO : S.2.2 290 = some (rfE V)) {n x : Nat} {y : Int32} (v47 : V 47 = .int (nI n)) (hn61 : n ≤ 61) (hx : x < n) (hy : ¬ (¬ y < 0 ∧ y ≤ nI 8)) : ks_P l G yX16_block mX16_block (d + 1) [.ref 290, .int (nI x), .int y] S (fun z S' => z = some (.long (lN 0)) ∧ ∃ V', pbK [] [111] S S' V V' ∧ V' 111 = .int (nI 1)) := by
  refine ks_of (by decide) rfl rfl (Nat.le_of_ble_eq_true rfl) ?_
  show ks_X l G mX16_block (d + 1) 0 [(0, .ref 290), (1, .int (nI x)), (2, .int y)] [] S _
  refine ks_aload_n dX16_block_0 rfl rfl ?_
  refine ks_iload_n dX16_block_1 rfl rfl ?_
  refine ks_if_ltN (tgt := 27) (by omega) dX16_block_2 (by decide) rfl ?_
  refine ks_iload_n dX16_block_5 rfl rfl ?_
  refine ks_aload_n dX16_block_6 rfl rfl ?_
  refine ks_getf (T := TX16) (kf := 47) kx_2415 rfl in_X16 cl_X16 (by decide) hO rfl dX16_block_7 rfl ?_
  refine ks_tv v47 ?_
  refine ks_icmp_geN (tgt := 27) (by omega) (by omega) dX16_block_10 (by decide) rfl (fun hc10 => ?_) (fun hc10 => ?_)
  · refine ks_iconst (x := nI 0) dX16_block_27 (by decide) rfl ?_
    refine ks_iconst (x := nI 1) dX16_block_28 (by decide) rfl ?_
    refine ks_callV (n := 2) (M' := mX16_good) (c_md_good0 hO) hO cl_X16 rfl kx_2734 kx_2736 kxp_127 kx_30 kx_2737 (by decide +kernel) rfl (by decide) (Nat.le_of_ble_eq_true rfl) rfl dX16_block_29 rfl (fun z29 S29 y29 => ?_)
    obtain ⟨rfl, V29, J29, v29⟩ := y29
    refine ks_if_neN (tgt := 37) (by decide) dX16_block_32 (by decide) rfl (fun hc32 => ?_) (fun hc32 => ?_)
    · exact absurd hc32 (by decide)
    · refine ks_lconst (x := lN 0) dX16_block_35 (by decide) rfl ?_
      refine ks_lret rfl dX16_block_36 ?_
      exact ⟨rfl, _, J29, v29⟩
  · refine ks_iload_n dX16_block_13 rfl rfl ?_
    refine ks_if_lt (tgt := 27) dX16_block_14 (by decide) rfl (fun hc14 => ?_) (fun hc14 => ?_)
    · refine ks_iconst (x := nI 0) dX16_block_27 (by decide) rfl ?_
      refine ks_iconst (x := nI 1) dX16_block_28 (by decide) rfl ?_
      refine ks_callV (n := 2) (M' := mX16_good) (c_md_good0 hO) hO cl_X16 rfl kx_2734 kx_2736 kxp_127 kx_30 kx_2737 (by decide +kernel) rfl (by decide) (Nat.le_of_ble_eq_true rfl) rfl dX16_block_29 rfl (fun z29 S29 y29 => ?_)
      obtain ⟨rfl, V29, J29, v29⟩ := y29
      refine ks_if_neN (tgt := 37) (by decide) dX16_block_32 (by decide) rfl (fun hc32 => ?_) (fun hc32 => ?_)
      · exact absurd hc32 (by decide)
      · refine ks_lconst (x := lN 0) dX16_block_35 (by decide) rfl ?_
        refine ks_lret rfl dX16_block_36 ?_
        exact ⟨rfl, _, J29, v29⟩
    · refine ks_iload_n dX16_block_17 rfl rfl ?_
      refine ks_bipush (x := nI 8) dX16_block_18 (by decide) rfl ?_
      refine ks_icmp_gt (tgt := 27) dX16_block_20 (by decide) rfl (fun hc20 => ?_) (fun hc20 => ?_)
      · refine ks_iconst (x := nI 0) dX16_block_27 (by decide) rfl ?_
        refine ks_iconst (x := nI 1) dX16_block_28 (by decide) rfl ?_
        refine ks_callV (n := 2) (M' := mX16_good) (c_md_good0 hO) hO cl_X16 rfl kx_2734 kx_2736 kxp_127 kx_30 kx_2737 (by decide +kernel) rfl (by decide) (Nat.le_of_ble_eq_true rfl) rfl dX16_block_29 rfl (fun z29 S29 y29 => ?_)
        obtain ⟨rfl, V29, J29, v29⟩ := y29
        refine ks_if_neN (tgt := 37) (by decide) dX16_block_32 (by decide) rfl (fun hc32 => ?_) (fun hc32 => ?_)
        · exact absurd hc32 (by decide)
        · refine ks_lconst (x := lN 0) dX16_block_35 (by decide) rfl ?_
          refine ks_lret rfl dX16_block_36 ?_
          exact ⟨rfl, _, J29, v29⟩
      · refine ks_iconst (x := nI 1) dX16_block_23 (by decide) rfl ?_
        refine ks_goto (tgt := 28) dX16_block_24 (by decide) ?_
        refine ks_iconst (x := nI 1) dX16_block_28 (by decide) rfl ?_
        exact absurd ⟨hc14, Int32.not_lt.mp hc20⟩ hy
set_option maxRecDepth 100000 in
set_option maxHeartbeats 800000 in
theorem c_mr_block0 {l : Launch} {G : ks_G} {d : Nat} {S : ks_S} {V : Nat → Value} (hO : S.2.2 290 = some (rfE V)) {n : Nat} {B : Nat → Bk} (v47 : V 47 = .int (nI n)) (hR : rbS S n B) {x : Nat} (hx : x < n) (hh31 : bkH (B x) < 2 ^ 30) : ks_P l G yX16_block mX16_block (d + 3) [.ref 290, .int (nI x), .int (nI 0)] S (fun z S' => z = some (.long (lN (bkH (B x)))) ∧ ∃ V', pbK [] [111] S S' V V' ∧ V' 111 = .int (nI 0)) := by
  obtain ⟨⟨bf, h341, hbf⟩, hB9, hn61⟩ := id hR
  obtain ⟨ob, pdb, ⟨ghb, ehb, khb, ahb⟩, wkb, bdb⟩ := hB9 x (by omega)
  obtain ⟨gp, Ap, gip, ⟨eyp, kgp⟩, ⟨hMNp, hN16p, hPBp, hP6p, hy6p⟩, hgp, hblp, Xp, hAp⟩ := id pdb
  have hc12 : mg (bkM (B x)) 80 ≤ 12 := (blk_b hblp).2
  refine ks_of (by decide) rfl rfl (Nat.le_of_ble_eq_true rfl) ?_
  show ks_X l G mX16_block (d + 3) 0 [(0, .ref 290), (1, .int (nI x)), (2, .int (nI 0))] [] S _
  refine ks_aload_n dX16_block_0 rfl rfl ?_
  refine ks_iload_n dX16_block_1 rfl rfl ?_
  refine ks_if_ltN (tgt := 27) (by omega) dX16_block_2 (by decide) rfl ?_
  refine ks_iload_n dX16_block_5 rfl rfl ?_
  refine ks_aload_n dX16_block_6 rfl rfl ?_
  refine ks_getf (T := TX16) (kf := 47) kx_2415 rfl in_X16 cl_X16 (by decide) hO rfl dX16_block_7 rfl ?_
  refine ks_tv v47 ?_
  refine ks_icmp_geN (tgt := 27) (by omega) (by omega) dX16_block_10 (by decide) rfl (fun hc10 => ?_) (fun hc10 => ?_)
  · refine ks_iconst (x := nI 0) dX16_block_27 (by decide) rfl ?_
    refine ks_iconst (x := nI 1) dX16_block_28 (by decide) rfl ?_
    omega
  · refine ks_iload_n dX16_block_13 rfl rfl ?_
    refine ks_if_ltN (tgt := 27) (by decide) dX16_block_14 (by decide) rfl ?_
    refine ks_iload_n dX16_block_17 rfl rfl ?_
    refine ks_bipush (x := nI 8) dX16_block_18 (by decide) rfl ?_
    refine ks_icmp_gtN (tgt := 27) (by decide) (by decide) dX16_block_20 (by decide) rfl (fun hc20 => ?_) (fun hc20 => ?_)
    · exact absurd hc20 (by decide)
    · refine ks_iconst (x := nI 1) dX16_block_23 (by decide) rfl ?_
      refine ks_goto (tgt := 28) dX16_block_24 (by decide) ?_
      refine ks_iconst (x := nI 1) dX16_block_28 (by decide) rfl ?_
      refine ks_callV (n := 2) (M' := mX16_good) (c_md_good1 hO) hO cl_X16 rfl kx_2734 kx_2736 kxp_127 kx_30 kx_2737 (by decide +kernel) rfl (by decide) (Nat.le_of_ble_eq_true rfl) rfl dX16_block_29 rfl (fun z29 S29 y29 => ?_)
      obtain ⟨rfl, V29, J29, v29⟩ := y29
      refine ks_if_neN (tgt := 37) (by decide) dX16_block_32 (by decide) rfl (fun hc32 => ?_) (fun hc32 => ?_)
      · refine ks_aload_n dX16_block_37 rfl rfl ?_
        refine ks_getf (T := TX16) (kf := 46) kx_2414 rfl in_X16 cl_X16 (by decide) J29.2.1 rfl dX16_block_38 rfl ?_
        refine ks_iload_n dX16_block_41 rfl rfl ?_
        refine ks_aaldN (i := x) (b := (bkN (B x))) (by decide) (J29.1.at h341 (by decide)) rfl (by omega) (by decide) (hbf x (by omega)) dX16_block_42 rfl ?_
        refine ks_astore_n dX16_block_43 (by decide) rfl ?_
        refine ks_sub [(3, _), (0, _), (1, _), (2, _)] rfl ?_
        refine ks_iload_n dX16_block_44 rfl rfl ?_
        refine ks_tableIn (off := 47) (tgt := 92) dX16_block_45 (by decide) (by decide) (by decide) (by decide) ?_
        refine ks_aload_n dX16_block_92 rfl rfl ?_
        refine ks_getN (T := TX12) (kf := 4) kx_2064 rfl in_X12 cl_X12 (by decide) (J29.1.at ob (by simp only [List.mem_cons, List.not_mem_nil, or_false]; omega)) rfl dX16_block_93 rfl ?_
        refine ks_i2lN (by omega) dX16_block_96 rfl ?_
        refine ks_lret rfl dX16_block_97 ?_
        exact ⟨rfl, _, J29, v29⟩
      · exact absurd hc32 (by decide)
set_option maxRecDepth 100000 in
set_option maxHeartbeats 800000 in
theorem c_mr_block1 {l : Launch} {G : ks_G} {d : Nat} {S : ks_S} {V : Nat → Value} (hO : S.2.2 290 = some (rfE V)) {n : Nat} {B : Nat → Bk} (v47 : V 47 = .int (nI n)) (hR : rbS S n B) {x : Nat} (hx : x < n)  : ks_P l G yX16_block mX16_block (d + 3) [.ref 290, .int (nI x), .int (nI 1)] S (fun z S' => z = some (.long ((nI (bkP (B x)) - 1).toInt64)) ∧ ∃ V', pbK [] [111] S S' V V' ∧ V' 111 = .int (nI 0)) := by
  obtain ⟨⟨bf, h341, hbf⟩, hB9, hn61⟩ := id hR
  obtain ⟨ob, pdb, ⟨ghb, ehb, khb, ahb⟩, wkb, bdb⟩ := hB9 x (by omega)
  obtain ⟨gp, Ap, gip, ⟨eyp, kgp⟩, ⟨hMNp, hN16p, hPBp, hP6p, hy6p⟩, hgp, hblp, Xp, hAp⟩ := id pdb
  have hc12 : mg (bkM (B x)) 80 ≤ 12 := (blk_b hblp).2
  refine ks_of (by decide) rfl rfl (Nat.le_of_ble_eq_true rfl) ?_
  show ks_X l G mX16_block (d + 3) 0 [(0, .ref 290), (1, .int (nI x)), (2, .int (nI 1))] [] S _
  refine ks_aload_n dX16_block_0 rfl rfl ?_
  refine ks_iload_n dX16_block_1 rfl rfl ?_
  refine ks_if_ltN (tgt := 27) (by omega) dX16_block_2 (by decide) rfl ?_
  refine ks_iload_n dX16_block_5 rfl rfl ?_
  refine ks_aload_n dX16_block_6 rfl rfl ?_
  refine ks_getf (T := TX16) (kf := 47) kx_2415 rfl in_X16 cl_X16 (by decide) hO rfl dX16_block_7 rfl ?_
  refine ks_tv v47 ?_
  refine ks_icmp_geN (tgt := 27) (by omega) (by omega) dX16_block_10 (by decide) rfl (fun hc10 => ?_) (fun hc10 => ?_)
  · refine ks_iconst (x := nI 0) dX16_block_27 (by decide) rfl ?_
    refine ks_iconst (x := nI 1) dX16_block_28 (by decide) rfl ?_
    omega
  · refine ks_iload_n dX16_block_13 rfl rfl ?_
    refine ks_if_ltN (tgt := 27) (by decide) dX16_block_14 (by decide) rfl ?_
    refine ks_iload_n dX16_block_17 rfl rfl ?_
    refine ks_bipush (x := nI 8) dX16_block_18 (by decide) rfl ?_
    refine ks_icmp_gtN (tgt := 27) (by decide) (by decide) dX16_block_20 (by decide) rfl (fun hc20 => ?_) (fun hc20 => ?_)
    · exact absurd hc20 (by decide)
    · refine ks_iconst (x := nI 1) dX16_block_23 (by decide) rfl ?_
      refine ks_goto (tgt := 28) dX16_block_24 (by decide) ?_
      refine ks_iconst (x := nI 1) dX16_block_28 (by decide) rfl ?_
      refine ks_callV (n := 2) (M' := mX16_good) (c_md_good1 hO) hO cl_X16 rfl kx_2734 kx_2736 kxp_127 kx_30 kx_2737 (by decide +kernel) rfl (by decide) (Nat.le_of_ble_eq_true rfl) rfl dX16_block_29 rfl (fun z29 S29 y29 => ?_)
      obtain ⟨rfl, V29, J29, v29⟩ := y29
      refine ks_if_neN (tgt := 37) (by decide) dX16_block_32 (by decide) rfl (fun hc32 => ?_) (fun hc32 => ?_)
      · refine ks_aload_n dX16_block_37 rfl rfl ?_
        refine ks_getf (T := TX16) (kf := 46) kx_2414 rfl in_X16 cl_X16 (by decide) J29.2.1 rfl dX16_block_38 rfl ?_
        refine ks_iload_n dX16_block_41 rfl rfl ?_
        refine ks_aaldN (i := x) (b := (bkN (B x))) (by decide) (J29.1.at h341 (by decide)) rfl (by omega) (by decide) (hbf x (by omega)) dX16_block_42 rfl ?_
        refine ks_astore_n dX16_block_43 (by decide) rfl ?_
        refine ks_sub [(3, _), (0, _), (1, _), (2, _)] rfl ?_
        refine ks_iload_n dX16_block_44 rfl rfl ?_
        refine ks_tableIn (off := 53) (tgt := 98) dX16_block_45 (by decide) (by decide) (by decide) (by decide) ?_
        refine ks_aload_n dX16_block_98 rfl rfl ?_
        refine ks_getN (T := TX12) (kf := 5) kx_2065 rfl in_X12 cl_X12 (by decide) (J29.1.at ob (by simp only [List.mem_cons, List.not_mem_nil, or_false]; omega)) rfl dX16_block_99 rfl ?_
        refine ks_i2l dX16_block_102 rfl ?_
        refine ks_lret rfl dX16_block_103 ?_
        exact ⟨rfl, _, J29, v29⟩
      · exact absurd hc32 (by decide)
set_option maxRecDepth 100000 in
set_option maxHeartbeats 800000 in
theorem c_mr_block2 {l : Launch} {G : ks_G} {d : Nat} {S : ks_S} {V : Nat → Value} (hO : S.2.2 290 = some (rfE V)) {n : Nat} {B : Nat → Bk} (v47 : V 47 = .int (nI n)) (hR : rbS S n B) {x : Nat} (hx : x < n) {best : Nat} (v48 : V 48 = .int (nI best)) (hbe : best < n) (hW : chW n B) : ks_P l G yX16_block mX16_block (d + 3) [.ref 290, .int (nI x), .int (nI 2)] S (fun z S' => z = some (.long (lN (if bkD (B x) = true then 2 else if stL B x n best = x then 1 else 0))) ∧ ∃ V', pbK [] [111] S S' V V' ∧ V' 111 = .int (nI 0)) := by
  obtain ⟨⟨bf, h341, hbf⟩, hB9, hn61⟩ := id hR
  obtain ⟨ob, pdb, ⟨ghb, ehb, khb, ahb⟩, wkb, bdb⟩ := hB9 x (by omega)
  obtain ⟨gp, Ap, gip, ⟨eyp, kgp⟩, ⟨hMNp, hN16p, hPBp, hP6p, hy6p⟩, hgp, hblp, Xp, hAp⟩ := id pdb
  have hc12 : mg (bkM (B x)) 80 ≤ 12 := (blk_b hblp).2
  refine ks_of (by decide) rfl rfl (Nat.le_of_ble_eq_true rfl) ?_
  show ks_X l G mX16_block (d + 3) 0 [(0, .ref 290), (1, .int (nI x)), (2, .int (nI 2))] [] S _
  refine ks_aload_n dX16_block_0 rfl rfl ?_
  refine ks_iload_n dX16_block_1 rfl rfl ?_
  refine ks_if_ltN (tgt := 27) (by omega) dX16_block_2 (by decide) rfl ?_
  refine ks_iload_n dX16_block_5 rfl rfl ?_
  refine ks_aload_n dX16_block_6 rfl rfl ?_
  refine ks_getf (T := TX16) (kf := 47) kx_2415 rfl in_X16 cl_X16 (by decide) hO rfl dX16_block_7 rfl ?_
  refine ks_tv v47 ?_
  refine ks_icmp_geN (tgt := 27) (by omega) (by omega) dX16_block_10 (by decide) rfl (fun hc10 => ?_) (fun hc10 => ?_)
  · refine ks_iconst (x := nI 0) dX16_block_27 (by decide) rfl ?_
    refine ks_iconst (x := nI 1) dX16_block_28 (by decide) rfl ?_
    omega
  · refine ks_iload_n dX16_block_13 rfl rfl ?_
    refine ks_if_ltN (tgt := 27) (by decide) dX16_block_14 (by decide) rfl ?_
    refine ks_iload_n dX16_block_17 rfl rfl ?_
    refine ks_bipush (x := nI 8) dX16_block_18 (by decide) rfl ?_
    refine ks_icmp_gtN (tgt := 27) (by decide) (by decide) dX16_block_20 (by decide) rfl (fun hc20 => ?_) (fun hc20 => ?_)
    · exact absurd hc20 (by decide)
    · refine ks_iconst (x := nI 1) dX16_block_23 (by decide) rfl ?_
      refine ks_goto (tgt := 28) dX16_block_24 (by decide) ?_
      refine ks_iconst (x := nI 1) dX16_block_28 (by decide) rfl ?_
      refine ks_callV (n := 2) (M' := mX16_good) (c_md_good1 hO) hO cl_X16 rfl kx_2734 kx_2736 kxp_127 kx_30 kx_2737 (by decide +kernel) rfl (by decide) (Nat.le_of_ble_eq_true rfl) rfl dX16_block_29 rfl (fun z29 S29 y29 => ?_)
      obtain ⟨rfl, V29, J29, v29⟩ := y29
      refine ks_if_neN (tgt := 37) (by decide) dX16_block_32 (by decide) rfl (fun hc32 => ?_) (fun hc32 => ?_)
      · refine ks_aload_n dX16_block_37 rfl rfl ?_
        refine ks_getf (T := TX16) (kf := 46) kx_2414 rfl in_X16 cl_X16 (by decide) J29.2.1 rfl dX16_block_38 rfl ?_
        refine ks_iload_n dX16_block_41 rfl rfl ?_
        refine ks_aaldN (i := x) (b := (bkN (B x))) (by decide) (J29.1.at h341 (by decide)) rfl (by omega) (by decide) (hbf x (by omega)) dX16_block_42 rfl ?_
        refine ks_astore_n dX16_block_43 (by decide) rfl ?_
        refine ks_sub [(3, _), (0, _), (1, _), (2, _)] rfl ?_
        refine ks_iload_n dX16_block_44 rfl rfl ?_
        refine ks_tableIn (off := 59) (tgt := 104) dX16_block_45 (by decide) (by decide) (by decide) (by decide) ?_
        refine ks_aload_n dX16_block_104 rfl rfl ?_
        refine ks_getN (T := TX12) (kf := 6) kx_2066 rfl in_X12 cl_X12 (by decide) (J29.1.at ob (by simp only [List.mem_cons, List.not_mem_nil, or_false]; omega)) rfl dX16_block_105 rfl ?_
        refine ks_if_eqZ (tgt := 117) dX16_block_108 (by decide) rfl (fun hc108 => ?_) (fun hc108 => ?_)
        · refine ks_aload_n dX16_block_117 rfl rfl ?_
          refine ks_iload_n dX16_block_118 rfl rfl ?_
          refine ks_aload_n dX16_block_119 rfl rfl ?_
          refine ks_getf (T := TX16) (kf := 48) kx_2416 rfl in_X16 cl_X16 (by decide) J29.2.1 rfl dX16_block_120 rfl ?_
          refine ks_tv ((J29.2.2 48 (by decide)).trans v48) ?_
          refine ks_callV (n := 2) (M' := mX16_isIn) (c_md_isIn J29.2.1 (hR.up J29.1 (fun x hx => by simp only [List.mem_cons, List.not_mem_nil, or_false] at hx; omega)) hx hW hbe) J29.2.1 cl_X16 rfl kx_2848 kx_2850 kxp_142 kx_30 kx_2851 (by decide +kernel) rfl (by decide) (Nat.le_of_ble_eq_true rfl) rfl dX16_block_123 rfl (fun z9 S9 y9 => ?_)
          obtain ⟨rfl, hq9y9⟩ := y9
          obtain rfl := hq9y9.symm
          refine ks_if_eqZ (tgt := 133) dX16_block_126 (by decide) rfl (fun hc126 => ?_) (fun hc126 => ?_)
          · refine ks_lconst (x := lN 0) dX16_block_133 (by decide) rfl ?_
            refine ks_lret rfl dX16_block_134 ?_
            refine ⟨?_, _, J29, v29⟩
            rw [if_neg (by rw [hc108]; decide), if_neg (of_decide_eq_false hc126)]
          · refine ks_lconst (x := lN 1) dX16_block_129 (by decide) rfl ?_
            refine ks_goto (tgt := 134) dX16_block_130 (by decide) ?_
            refine ks_lret rfl dX16_block_134 ?_
            refine ⟨?_, _, J29, v29⟩
            rw [if_neg (by rw [hc108]; decide), if_pos (of_decide_eq_true hc126)]
        · refine ks_ldc2 dX16_block_111 kx_2042 rfl ?_
          refine ks_tl (y := lN 2) rfl ?_
          refine ks_goto (tgt := 134) dX16_block_114 (by decide) ?_
          refine ks_lret rfl dX16_block_134 ?_
          refine ⟨?_, _, J29, v29⟩
          rw [if_pos hc108]
      · exact absurd hc32 (by decide)
set_option maxRecDepth 100000 in
set_option maxHeartbeats 800000 in
theorem c_mr_block3 {l : Launch} {G : ks_G} {d : Nat} {S : ks_S} {V : Nat → Value} (hO : S.2.2 290 = some (rfE V)) {n : Nat} {B : Nat → Bk} (v47 : V 47 = .int (nI n)) (hR : rbS S n B) {x : Nat} (hx : x < n)  : ks_P l G yX16_block mX16_block (d + 3) [.ref 290, .int (nI x), .int (nI 3)] S (fun z S' => z = some (.long (lN (tmB (bkM (B x))))) ∧ ∃ V', pbK [] [111] S S' V V' ∧ V' 111 = .int (nI 0)) := by
  obtain ⟨⟨bf, h341, hbf⟩, hB9, hn61⟩ := id hR
  obtain ⟨ob, pdb, ⟨ghb, ehb, khb, ahb⟩, wkb, bdb⟩ := hB9 x (by omega)
  obtain ⟨gp, Ap, gip, ⟨eyp, kgp⟩, ⟨hMNp, hN16p, hPBp, hP6p, hy6p⟩, hgp, hblp, Xp, hAp⟩ := id pdb
  have hc12 : mg (bkM (B x)) 80 ≤ 12 := (blk_b hblp).2
  refine ks_of (by decide) rfl rfl (Nat.le_of_ble_eq_true rfl) ?_
  show ks_X l G mX16_block (d + 3) 0 [(0, .ref 290), (1, .int (nI x)), (2, .int (nI 3))] [] S _
  refine ks_aload_n dX16_block_0 rfl rfl ?_
  refine ks_iload_n dX16_block_1 rfl rfl ?_
  refine ks_if_ltN (tgt := 27) (by omega) dX16_block_2 (by decide) rfl ?_
  refine ks_iload_n dX16_block_5 rfl rfl ?_
  refine ks_aload_n dX16_block_6 rfl rfl ?_
  refine ks_getf (T := TX16) (kf := 47) kx_2415 rfl in_X16 cl_X16 (by decide) hO rfl dX16_block_7 rfl ?_
  refine ks_tv v47 ?_
  refine ks_icmp_geN (tgt := 27) (by omega) (by omega) dX16_block_10 (by decide) rfl (fun hc10 => ?_) (fun hc10 => ?_)
  · refine ks_iconst (x := nI 0) dX16_block_27 (by decide) rfl ?_
    refine ks_iconst (x := nI 1) dX16_block_28 (by decide) rfl ?_
    omega
  · refine ks_iload_n dX16_block_13 rfl rfl ?_
    refine ks_if_ltN (tgt := 27) (by decide) dX16_block_14 (by decide) rfl ?_
    refine ks_iload_n dX16_block_17 rfl rfl ?_
    refine ks_bipush (x := nI 8) dX16_block_18 (by decide) rfl ?_
    refine ks_icmp_gtN (tgt := 27) (by decide) (by decide) dX16_block_20 (by decide) rfl (fun hc20 => ?_) (fun hc20 => ?_)
    · exact absurd hc20 (by decide)
    · refine ks_iconst (x := nI 1) dX16_block_23 (by decide) rfl ?_
      refine ks_goto (tgt := 28) dX16_block_24 (by decide) ?_
      refine ks_iconst (x := nI 1) dX16_block_28 (by decide) rfl ?_
      refine ks_callV (n := 2) (M' := mX16_good) (c_md_good1 hO) hO cl_X16 rfl kx_2734 kx_2736 kxp_127 kx_30 kx_2737 (by decide +kernel) rfl (by decide) (Nat.le_of_ble_eq_true rfl) rfl dX16_block_29 rfl (fun z29 S29 y29 => ?_)
      obtain ⟨rfl, V29, J29, v29⟩ := y29
      refine ks_if_neN (tgt := 37) (by decide) dX16_block_32 (by decide) rfl (fun hc32 => ?_) (fun hc32 => ?_)
      · refine ks_aload_n dX16_block_37 rfl rfl ?_
        refine ks_getf (T := TX16) (kf := 46) kx_2414 rfl in_X16 cl_X16 (by decide) J29.2.1 rfl dX16_block_38 rfl ?_
        refine ks_iload_n dX16_block_41 rfl rfl ?_
        refine ks_aaldN (i := x) (b := (bkN (B x))) (by decide) (J29.1.at h341 (by decide)) rfl (by omega) (by decide) (hbf x (by omega)) dX16_block_42 rfl ?_
        refine ks_astore_n dX16_block_43 (by decide) rfl ?_
        refine ks_sub [(3, _), (0, _), (1, _), (2, _)] rfl ?_
        refine ks_iload_n dX16_block_44 rfl rfl ?_
        refine ks_tableIn (off := 90) (tgt := 135) dX16_block_45 (by decide) (by decide) (by decide) (by decide) ?_
        refine ks_aload_n dX16_block_135 rfl rfl ?_
        refine ks_iload_n dX16_block_136 rfl rfl ?_
        refine ks_callV (n := 1) (M' := mX16_timeOf) (c_md_timeOf J29.2.1 (hR.up J29.1 (fun x hx => by simp only [List.mem_cons, List.not_mem_nil, or_false] at hx; omega)) hx) J29.2.1 cl_X16 rfl kx_2024 kx_2026 kxp_69 kx_30 kx_2027 (by decide +kernel) rfl (by decide) (Nat.le_of_ble_eq_true rfl) rfl dX16_block_137 rfl (fun z9 S9 y9 => ?_)
        obtain ⟨rfl, hq9y9⟩ := y9
        obtain rfl := hq9y9.symm
        refine ks_lret rfl dX16_block_140 ?_
        exact ⟨rfl, _, J29, v29⟩
      · exact absurd hc32 (by decide)
set_option maxRecDepth 100000 in
set_option maxHeartbeats 800000 in
theorem c_mr_block4 {l : Launch} {G : ks_G} {d : Nat} {S : ks_S} {V : Nat → Value} (hO : S.2.2 290 = some (rfE V)) {n : Nat} {B : Nat → Bk} (v47 : V 47 = .int (nI n)) (hR : rbS S n B) {x : Nat} (hx : x < n)  : ks_P l G yX16_block mX16_block (d + 3) [.ref 290, .int (nI x), .int (nI 4)] S (fun z S' => z = some (.long (lN (btB (bkM (B x))))) ∧ ∃ V', pbK [] [111] S S' V V' ∧ V' 111 = .int (nI 0)) := by
  obtain ⟨⟨bf, h341, hbf⟩, hB9, hn61⟩ := id hR
  obtain ⟨ob, pdb, ⟨ghb, ehb, khb, ahb⟩, wkb, bdb⟩ := hB9 x (by omega)
  obtain ⟨gp, Ap, gip, ⟨eyp, kgp⟩, ⟨hMNp, hN16p, hPBp, hP6p, hy6p⟩, hgp, hblp, Xp, hAp⟩ := id pdb
  have hc12 : mg (bkM (B x)) 80 ≤ 12 := (blk_b hblp).2
  refine ks_of (by decide) rfl rfl (Nat.le_of_ble_eq_true rfl) ?_
  show ks_X l G mX16_block (d + 3) 0 [(0, .ref 290), (1, .int (nI x)), (2, .int (nI 4))] [] S _
  refine ks_aload_n dX16_block_0 rfl rfl ?_
  refine ks_iload_n dX16_block_1 rfl rfl ?_
  refine ks_if_ltN (tgt := 27) (by omega) dX16_block_2 (by decide) rfl ?_
  refine ks_iload_n dX16_block_5 rfl rfl ?_
  refine ks_aload_n dX16_block_6 rfl rfl ?_
  refine ks_getf (T := TX16) (kf := 47) kx_2415 rfl in_X16 cl_X16 (by decide) hO rfl dX16_block_7 rfl ?_
  refine ks_tv v47 ?_
  refine ks_icmp_geN (tgt := 27) (by omega) (by omega) dX16_block_10 (by decide) rfl (fun hc10 => ?_) (fun hc10 => ?_)
  · refine ks_iconst (x := nI 0) dX16_block_27 (by decide) rfl ?_
    refine ks_iconst (x := nI 1) dX16_block_28 (by decide) rfl ?_
    omega
  · refine ks_iload_n dX16_block_13 rfl rfl ?_
    refine ks_if_ltN (tgt := 27) (by decide) dX16_block_14 (by decide) rfl ?_
    refine ks_iload_n dX16_block_17 rfl rfl ?_
    refine ks_bipush (x := nI 8) dX16_block_18 (by decide) rfl ?_
    refine ks_icmp_gtN (tgt := 27) (by decide) (by decide) dX16_block_20 (by decide) rfl (fun hc20 => ?_) (fun hc20 => ?_)
    · exact absurd hc20 (by decide)
    · refine ks_iconst (x := nI 1) dX16_block_23 (by decide) rfl ?_
      refine ks_goto (tgt := 28) dX16_block_24 (by decide) ?_
      refine ks_iconst (x := nI 1) dX16_block_28 (by decide) rfl ?_
      refine ks_callV (n := 2) (M' := mX16_good) (c_md_good1 hO) hO cl_X16 rfl kx_2734 kx_2736 kxp_127 kx_30 kx_2737 (by decide +kernel) rfl (by decide) (Nat.le_of_ble_eq_true rfl) rfl dX16_block_29 rfl (fun z29 S29 y29 => ?_)
      obtain ⟨rfl, V29, J29, v29⟩ := y29
      refine ks_if_neN (tgt := 37) (by decide) dX16_block_32 (by decide) rfl (fun hc32 => ?_) (fun hc32 => ?_)
      · refine ks_aload_n dX16_block_37 rfl rfl ?_
        refine ks_getf (T := TX16) (kf := 46) kx_2414 rfl in_X16 cl_X16 (by decide) J29.2.1 rfl dX16_block_38 rfl ?_
        refine ks_iload_n dX16_block_41 rfl rfl ?_
        refine ks_aaldN (i := x) (b := (bkN (B x))) (by decide) (J29.1.at h341 (by decide)) rfl (by omega) (by decide) (hbf x (by omega)) dX16_block_42 rfl ?_
        refine ks_astore_n dX16_block_43 (by decide) rfl ?_
        refine ks_sub [(3, _), (0, _), (1, _), (2, _)] rfl ?_
        refine ks_iload_n dX16_block_44 rfl rfl ?_
        refine ks_tableIn (off := 96) (tgt := 141) dX16_block_45 (by decide) (by decide) (by decide) (by decide) ?_
        refine ks_aload_n dX16_block_141 rfl rfl ?_
        refine ks_iload_n dX16_block_142 rfl rfl ?_
        refine ks_callV (n := 1) (M' := mX16_bitsOf) (c_md_bitsOf J29.2.1 (hR.up J29.1 (fun x hx => by simp only [List.mem_cons, List.not_mem_nil, or_false] at hx; omega)) hx) J29.2.1 cl_X16 rfl kx_2016 kx_2018 kxp_67 kx_30 kx_2019 (by decide +kernel) rfl (by decide) (Nat.le_of_ble_eq_true rfl) rfl dX16_block_143 rfl (fun z9 S9 y9 => ?_)
        obtain ⟨rfl, hq9y9⟩ := y9
        obtain rfl := hq9y9.symm
        refine ks_lret rfl dX16_block_146 ?_
        exact ⟨rfl, _, J29, v29⟩
      · exact absurd hc32 (by decide)
set_option maxRecDepth 100000 in
set_option maxHeartbeats 800000 in
theorem c_mr_block5 {l : Launch} {G : ks_G} {d : Nat} {S : ks_S} {V : Nat → Value} (hO : S.2.2 290 = some (rfE V)) {n : Nat} {B : Nat → Bk} (v47 : V 47 = .int (nI n)) (hR : rbS S n B) {x : Nat} (hx : x < n)  : ks_P l G yX16_block mX16_block (d + 3) [.ref 290, .int (nI x), .int (nI 5)] S (fun z S' => z = some (.long (lN (mg (bkM (B x)) 80))) ∧ ∃ V', pbK [] [111] S S' V V' ∧ V' 111 = .int (nI 0)) := by
  obtain ⟨⟨bf, h341, hbf⟩, hB9, hn61⟩ := id hR
  obtain ⟨ob, pdb, ⟨ghb, ehb, khb, ahb⟩, wkb, bdb⟩ := hB9 x (by omega)
  obtain ⟨gp, Ap, gip, ⟨eyp, kgp⟩, ⟨hMNp, hN16p, hPBp, hP6p, hy6p⟩, hgp, hblp, Xp, hAp⟩ := id pdb
  have hc12 : mg (bkM (B x)) 80 ≤ 12 := (blk_b hblp).2
  refine ks_of (by decide) rfl rfl (Nat.le_of_ble_eq_true rfl) ?_
  show ks_X l G mX16_block (d + 3) 0 [(0, .ref 290), (1, .int (nI x)), (2, .int (nI 5))] [] S _
  refine ks_aload_n dX16_block_0 rfl rfl ?_
  refine ks_iload_n dX16_block_1 rfl rfl ?_
  refine ks_if_ltN (tgt := 27) (by omega) dX16_block_2 (by decide) rfl ?_
  refine ks_iload_n dX16_block_5 rfl rfl ?_
  refine ks_aload_n dX16_block_6 rfl rfl ?_
  refine ks_getf (T := TX16) (kf := 47) kx_2415 rfl in_X16 cl_X16 (by decide) hO rfl dX16_block_7 rfl ?_
  refine ks_tv v47 ?_
  refine ks_icmp_geN (tgt := 27) (by omega) (by omega) dX16_block_10 (by decide) rfl (fun hc10 => ?_) (fun hc10 => ?_)
  · refine ks_iconst (x := nI 0) dX16_block_27 (by decide) rfl ?_
    refine ks_iconst (x := nI 1) dX16_block_28 (by decide) rfl ?_
    omega
  · refine ks_iload_n dX16_block_13 rfl rfl ?_
    refine ks_if_ltN (tgt := 27) (by decide) dX16_block_14 (by decide) rfl ?_
    refine ks_iload_n dX16_block_17 rfl rfl ?_
    refine ks_bipush (x := nI 8) dX16_block_18 (by decide) rfl ?_
    refine ks_icmp_gtN (tgt := 27) (by decide) (by decide) dX16_block_20 (by decide) rfl (fun hc20 => ?_) (fun hc20 => ?_)
    · exact absurd hc20 (by decide)
    · refine ks_iconst (x := nI 1) dX16_block_23 (by decide) rfl ?_
      refine ks_goto (tgt := 28) dX16_block_24 (by decide) ?_
      refine ks_iconst (x := nI 1) dX16_block_28 (by decide) rfl ?_
      refine ks_callV (n := 2) (M' := mX16_good) (c_md_good1 hO) hO cl_X16 rfl kx_2734 kx_2736 kxp_127 kx_30 kx_2737 (by decide +kernel) rfl (by decide) (Nat.le_of_ble_eq_true rfl) rfl dX16_block_29 rfl (fun z29 S29 y29 => ?_)
      obtain ⟨rfl, V29, J29, v29⟩ := y29
      refine ks_if_neN (tgt := 37) (by decide) dX16_block_32 (by decide) rfl (fun hc32 => ?_) (fun hc32 => ?_)
      · refine ks_aload_n dX16_block_37 rfl rfl ?_
        refine ks_getf (T := TX16) (kf := 46) kx_2414 rfl in_X16 cl_X16 (by decide) J29.2.1 rfl dX16_block_38 rfl ?_
        refine ks_iload_n dX16_block_41 rfl rfl ?_
        refine ks_aaldN (i := x) (b := (bkN (B x))) (by decide) (J29.1.at h341 (by decide)) rfl (by omega) (by decide) (hbf x (by omega)) dX16_block_42 rfl ?_
        refine ks_astore_n dX16_block_43 (by decide) rfl ?_
        refine ks_sub [(3, _), (0, _), (1, _), (2, _)] rfl ?_
        refine ks_iload_n dX16_block_44 rfl rfl ?_
        refine ks_tableIn (off := 102) (tgt := 147) dX16_block_45 (by decide) (by decide) (by decide) (by decide) ?_
        refine ks_aload_n dX16_block_147 rfl rfl ?_
        refine ks_getN (T := TX12) (kf := 3) kx_2063 rfl in_X12 cl_X12 (by decide) (J29.1.at ob (by simp only [List.mem_cons, List.not_mem_nil, or_false]; omega)) rfl dX16_block_148 rfl ?_
        refine ks_getN (T := TX13) (kf := 1) kx_1814 rfl in_X13 cl_X13 (by decide) (J29.1.at Xp.1 (by simp only [List.mem_cons, List.not_mem_nil, or_false]; omega)) rfl dX16_block_151 rfl ?_
        refine ks_i2lN (by omega) dX16_block_154 rfl ?_
        refine ks_lret rfl dX16_block_155 ?_
        exact ⟨rfl, _, J29, v29⟩
      · exact absurd hc32 (by decide)
set_option maxRecDepth 100000 in
set_option maxHeartbeats 800000 in
theorem c_mr_block6 {l : Launch} {G : ks_G} {d : Nat} {S : ks_S} {V : Nat → Value} (hO : S.2.2 290 = some (rfE V)) {n : Nat} {B : Nat → Bk} (v47 : V 47 = .int (nI n)) (hR : rbS S n B) {x : Nat} (hx : x < n)  : ks_P l G yX16_block mX16_block (d + 3) [.ref 290, .int (nI x), .int (nI 6)] S (fun z S' => z = some (.long (lN (bkM (B x)).length)) ∧ ∃ V', pbK [] [111] S S' V V' ∧ V' 111 = .int (nI 0)) := by
  obtain ⟨⟨bf, h341, hbf⟩, hB9, hn61⟩ := id hR
  obtain ⟨ob, pdb, ⟨ghb, ehb, khb, ahb⟩, wkb, bdb⟩ := hB9 x (by omega)
  obtain ⟨gp, Ap, gip, ⟨eyp, kgp⟩, ⟨hMNp, hN16p, hPBp, hP6p, hy6p⟩, hgp, hblp, Xp, hAp⟩ := id pdb
  have hc12 : mg (bkM (B x)) 80 ≤ 12 := (blk_b hblp).2
  refine ks_of (by decide) rfl rfl (Nat.le_of_ble_eq_true rfl) ?_
  show ks_X l G mX16_block (d + 3) 0 [(0, .ref 290), (1, .int (nI x)), (2, .int (nI 6))] [] S _
  refine ks_aload_n dX16_block_0 rfl rfl ?_
  refine ks_iload_n dX16_block_1 rfl rfl ?_
  refine ks_if_ltN (tgt := 27) (by omega) dX16_block_2 (by decide) rfl ?_
  refine ks_iload_n dX16_block_5 rfl rfl ?_
  refine ks_aload_n dX16_block_6 rfl rfl ?_
  refine ks_getf (T := TX16) (kf := 47) kx_2415 rfl in_X16 cl_X16 (by decide) hO rfl dX16_block_7 rfl ?_
  refine ks_tv v47 ?_
  refine ks_icmp_geN (tgt := 27) (by omega) (by omega) dX16_block_10 (by decide) rfl (fun hc10 => ?_) (fun hc10 => ?_)
  · refine ks_iconst (x := nI 0) dX16_block_27 (by decide) rfl ?_
    refine ks_iconst (x := nI 1) dX16_block_28 (by decide) rfl ?_
    omega
  · refine ks_iload_n dX16_block_13 rfl rfl ?_
    refine ks_if_ltN (tgt := 27) (by decide) dX16_block_14 (by decide) rfl ?_
    refine ks_iload_n dX16_block_17 rfl rfl ?_
    refine ks_bipush (x := nI 8) dX16_block_18 (by decide) rfl ?_
    refine ks_icmp_gtN (tgt := 27) (by decide) (by decide) dX16_block_20 (by decide) rfl (fun hc20 => ?_) (fun hc20 => ?_)
    · exact absurd hc20 (by decide)
    · refine ks_iconst (x := nI 1) dX16_block_23 (by decide) rfl ?_
      refine ks_goto (tgt := 28) dX16_block_24 (by decide) ?_
      refine ks_iconst (x := nI 1) dX16_block_28 (by decide) rfl ?_
      refine ks_callV (n := 2) (M' := mX16_good) (c_md_good1 hO) hO cl_X16 rfl kx_2734 kx_2736 kxp_127 kx_30 kx_2737 (by decide +kernel) rfl (by decide) (Nat.le_of_ble_eq_true rfl) rfl dX16_block_29 rfl (fun z29 S29 y29 => ?_)
      obtain ⟨rfl, V29, J29, v29⟩ := y29
      refine ks_if_neN (tgt := 37) (by decide) dX16_block_32 (by decide) rfl (fun hc32 => ?_) (fun hc32 => ?_)
      · refine ks_aload_n dX16_block_37 rfl rfl ?_
        refine ks_getf (T := TX16) (kf := 46) kx_2414 rfl in_X16 cl_X16 (by decide) J29.2.1 rfl dX16_block_38 rfl ?_
        refine ks_iload_n dX16_block_41 rfl rfl ?_
        refine ks_aaldN (i := x) (b := (bkN (B x))) (by decide) (J29.1.at h341 (by decide)) rfl (by omega) (by decide) (hbf x (by omega)) dX16_block_42 rfl ?_
        refine ks_astore_n dX16_block_43 (by decide) rfl ?_
        refine ks_sub [(3, _), (0, _), (1, _), (2, _)] rfl ?_
        refine ks_iload_n dX16_block_44 rfl rfl ?_
        refine ks_tableIn (off := 111) (tgt := 156) dX16_block_45 (by decide) (by decide) (by decide) (by decide) ?_
        refine ks_aload_n dX16_block_156 rfl rfl ?_
        refine ks_getN (T := TX12) (kf := 1) kx_2059 rfl in_X12 cl_X12 (by decide) (J29.1.at ob (by simp only [List.mem_cons, List.not_mem_nil, or_false]; omega)) rfl dX16_block_157 rfl ?_
        refine ks_i2lN (by omega) dX16_block_160 rfl ?_
        refine ks_lret rfl dX16_block_161 ?_
        exact ⟨rfl, _, J29, v29⟩
      · exact absurd hc32 (by decide)
set_option maxRecDepth 100000 in
set_option maxHeartbeats 800000 in
theorem c_mr_block7 {l : Launch} {G : ks_G} {d : Nat} {S : ks_S} {V : Nat → Value} (hO : S.2.2 290 = some (rfE V)) {n : Nat} {B : Nat → Bk} (v47 : V 47 = .int (nI n)) (hR : rbS S n B) {x : Nat} (hx : x < n)  : ks_P l G yX16_block mX16_block (d + 3) [.ref 290, .int (nI x), .int (nI 7)] S (fun z S' => z = some (.long (lN (bkW (B x)))) ∧ ∃ V', pbK [] [111] S S' V V' ∧ V' 111 = .int (nI 0)) := by
  obtain ⟨⟨bf, h341, hbf⟩, hB9, hn61⟩ := id hR
  obtain ⟨ob, pdb, ⟨ghb, ehb, khb, ahb⟩, wkb, bdb⟩ := hB9 x (by omega)
  obtain ⟨gp, Ap, gip, ⟨eyp, kgp⟩, ⟨hMNp, hN16p, hPBp, hP6p, hy6p⟩, hgp, hblp, Xp, hAp⟩ := id pdb
  have hc12 : mg (bkM (B x)) 80 ≤ 12 := (blk_b hblp).2
  obtain ⟨gw, ew, bw, dw⟩ := id wkb
  have bw0 := bw 0 (by decide)
  have bw1 := bw 1 (by decide)
  refine ks_of (by decide) rfl rfl (Nat.le_of_ble_eq_true rfl) ?_
  show ks_X l G mX16_block (d + 3) 0 [(0, .ref 290), (1, .int (nI x)), (2, .int (nI 7))] [] S _
  refine ks_aload_n dX16_block_0 rfl rfl ?_
  refine ks_iload_n dX16_block_1 rfl rfl ?_
  refine ks_if_ltN (tgt := 27) (by omega) dX16_block_2 (by decide) rfl ?_
  refine ks_iload_n dX16_block_5 rfl rfl ?_
  refine ks_aload_n dX16_block_6 rfl rfl ?_
  refine ks_getf (T := TX16) (kf := 47) kx_2415 rfl in_X16 cl_X16 (by decide) hO rfl dX16_block_7 rfl ?_
  refine ks_tv v47 ?_
  refine ks_icmp_geN (tgt := 27) (by omega) (by omega) dX16_block_10 (by decide) rfl (fun hc10 => ?_) (fun hc10 => ?_)
  · refine ks_iconst (x := nI 0) dX16_block_27 (by decide) rfl ?_
    refine ks_iconst (x := nI 1) dX16_block_28 (by decide) rfl ?_
    omega
  · refine ks_iload_n dX16_block_13 rfl rfl ?_
    refine ks_if_ltN (tgt := 27) (by decide) dX16_block_14 (by decide) rfl ?_
    refine ks_iload_n dX16_block_17 rfl rfl ?_
    refine ks_bipush (x := nI 8) dX16_block_18 (by decide) rfl ?_
    refine ks_icmp_gtN (tgt := 27) (by decide) (by decide) dX16_block_20 (by decide) rfl (fun hc20 => ?_) (fun hc20 => ?_)
    · exact absurd hc20 (by decide)
    · refine ks_iconst (x := nI 1) dX16_block_23 (by decide) rfl ?_
      refine ks_goto (tgt := 28) dX16_block_24 (by decide) ?_
      refine ks_iconst (x := nI 1) dX16_block_28 (by decide) rfl ?_
      refine ks_callV (n := 2) (M' := mX16_good) (c_md_good1 hO) hO cl_X16 rfl kx_2734 kx_2736 kxp_127 kx_30 kx_2737 (by decide +kernel) rfl (by decide) (Nat.le_of_ble_eq_true rfl) rfl dX16_block_29 rfl (fun z29 S29 y29 => ?_)
      obtain ⟨rfl, V29, J29, v29⟩ := y29
      refine ks_if_neN (tgt := 37) (by decide) dX16_block_32 (by decide) rfl (fun hc32 => ?_) (fun hc32 => ?_)
      · refine ks_aload_n dX16_block_37 rfl rfl ?_
        refine ks_getf (T := TX16) (kf := 46) kx_2414 rfl in_X16 cl_X16 (by decide) J29.2.1 rfl dX16_block_38 rfl ?_
        refine ks_iload_n dX16_block_41 rfl rfl ?_
        refine ks_aaldN (i := x) (b := (bkN (B x))) (by decide) (J29.1.at h341 (by decide)) rfl (by omega) (by decide) (hbf x (by omega)) dX16_block_42 rfl ?_
        refine ks_astore_n dX16_block_43 (by decide) rfl ?_
        refine ks_sub [(3, _), (0, _), (1, _), (2, _)] rfl ?_
        refine ks_iload_n dX16_block_44 rfl rfl ?_
        refine ks_tableIn (off := 117) (tgt := 162) dX16_block_45 (by decide) (by decide) (by decide) (by decide) ?_
        refine ks_aload_n dX16_block_162 rfl rfl ?_
        refine ks_getN (T := TX12) (kf := 8) kx_2069 rfl in_X12 cl_X12 (by decide) (J29.1.at ob (by simp only [List.mem_cons, List.not_mem_nil, or_false]; omega)) rfl dX16_block_163 rfl ?_
        refine ks_iconst (x := nI 1) dX16_block_166 (by decide) rfl ?_
        refine ks_ialdN (i := 1) (J29.1.at ew (by simp only [List.mem_cons, List.not_mem_nil, or_false]; omega)) rfl (by decide) (by decide) dX16_block_167 rfl ?_
        refine ks_i2l dX16_block_168 rfl ?_
        refine ks_ldc2 dX16_block_169 kx_1953 rfl ?_
        refine ks_tl (y := lN 4294967295) rfl ?_
        refine ks_land dX16_block_172 rfl ?_
        refine ks_tl (y := lN (gw 1)) (low_l2 (by omega)) ?_
        refine ks_bipush (x := nI 32) dX16_block_173 (by decide) rfl ?_
        refine ks_lshlN (k := 32) (by decide) dX16_block_175 rfl ?_
        refine ks_aload_n dX16_block_176 rfl rfl ?_
        refine ks_getN (T := TX12) (kf := 8) kx_2069 rfl in_X12 cl_X12 (by decide) (J29.1.at ob (by simp only [List.mem_cons, List.not_mem_nil, or_false]; omega)) rfl dX16_block_177 rfl ?_
        refine ks_iconst (x := nI 0) dX16_block_180 (by decide) rfl ?_
        refine ks_ialdN (i := 0) (J29.1.at ew (by simp only [List.mem_cons, List.not_mem_nil, or_false]; omega)) rfl (by decide) (by decide) dX16_block_181 rfl ?_
        refine ks_i2l dX16_block_182 rfl ?_
        refine ks_ldc2 dX16_block_183 kx_1953 rfl ?_
        refine ks_tl (y := lN 4294967295) rfl ?_
        refine ks_land dX16_block_186 rfl ?_
        refine ks_tl (y := lN (gw 0)) (low_l2 (by omega)) ?_
        refine ks_lorN (a := (gw 1)) (k := 32) (p := 2 ^ 32) rfl (by omega) (by omega) dX16_block_187 rfl ?_
        refine ks_lret rfl dX16_block_188 ?_
        refine ⟨?_, _, J29, v29⟩
        rw [← dw, lN_low2 (g := gw)]
      · exact absurd hc32 (by decide)
set_option maxRecDepth 100000 in
set_option maxHeartbeats 800000 in
theorem c_mr_block8 {l : Launch} {G : ks_G} {d : Nat} {S : ks_S} {V : Nat → Value} (hO : S.2.2 290 = some (rfE V)) {n : Nat} {B : Nat → Bk} (v47 : V 47 = .int (nI n)) (hR : rbS S n B) {x : Nat} (hx : x < n) {f0 : Nat → Nat} (hW : chW n B) (h344 : S.2.2 344 = some (kL 11 f0)) : ks_P l G yX16_block mX16_block (d + 3) [.ref 290, .int (nI x), .int (nI 8)] S (fun z S' => z = some (.long (lN (mdF B x))) ∧ ∃ V', pbK [344] [111] S S' V V' ∧ V' 111 = .int (nI 0) ∧ ∃ f, S'.2.2 344 = some (kL 11 f)) := by
  obtain ⟨⟨bf, h341, hbf⟩, hB9, hn61⟩ := id hR
  obtain ⟨ob, pdb, ⟨ghb, ehb, khb, ahb⟩, wkb, bdb⟩ := hB9 x (by omega)
  obtain ⟨gp, Ap, gip, ⟨eyp, kgp⟩, ⟨hMNp, hN16p, hPBp, hP6p, hy6p⟩, hgp, hblp, Xp, hAp⟩ := id pdb
  have hc12 : mg (bkM (B x)) 80 ≤ 12 := (blk_b hblp).2
  refine ks_of (by decide) rfl rfl (Nat.le_of_ble_eq_true rfl) ?_
  show ks_X l G mX16_block (d + 3) 0 [(0, .ref 290), (1, .int (nI x)), (2, .int (nI 8))] [] S _
  refine ks_aload_n dX16_block_0 rfl rfl ?_
  refine ks_iload_n dX16_block_1 rfl rfl ?_
  refine ks_if_ltN (tgt := 27) (by omega) dX16_block_2 (by decide) rfl ?_
  refine ks_iload_n dX16_block_5 rfl rfl ?_
  refine ks_aload_n dX16_block_6 rfl rfl ?_
  refine ks_getf (T := TX16) (kf := 47) kx_2415 rfl in_X16 cl_X16 (by decide) hO rfl dX16_block_7 rfl ?_
  refine ks_tv v47 ?_
  refine ks_icmp_geN (tgt := 27) (by omega) (by omega) dX16_block_10 (by decide) rfl (fun hc10 => ?_) (fun hc10 => ?_)
  · refine ks_iconst (x := nI 0) dX16_block_27 (by decide) rfl ?_
    refine ks_iconst (x := nI 1) dX16_block_28 (by decide) rfl ?_
    omega
  · refine ks_iload_n dX16_block_13 rfl rfl ?_
    refine ks_if_ltN (tgt := 27) (by decide) dX16_block_14 (by decide) rfl ?_
    refine ks_iload_n dX16_block_17 rfl rfl ?_
    refine ks_bipush (x := nI 8) dX16_block_18 (by decide) rfl ?_
    refine ks_icmp_gtN (tgt := 27) (by decide) (by decide) dX16_block_20 (by decide) rfl (fun hc20 => ?_) (fun hc20 => ?_)
    · exact absurd hc20 (by decide)
    · refine ks_iconst (x := nI 1) dX16_block_23 (by decide) rfl ?_
      refine ks_goto (tgt := 28) dX16_block_24 (by decide) ?_
      refine ks_iconst (x := nI 1) dX16_block_28 (by decide) rfl ?_
      refine ks_callV (n := 2) (M' := mX16_good) (c_md_good1 hO) hO cl_X16 rfl kx_2734 kx_2736 kxp_127 kx_30 kx_2737 (by decide +kernel) rfl (by decide) (Nat.le_of_ble_eq_true rfl) rfl dX16_block_29 rfl (fun z29 S29 y29 => ?_)
      obtain ⟨rfl, V29, J29, v29⟩ := y29
      refine ks_if_neN (tgt := 37) (by decide) dX16_block_32 (by decide) rfl (fun hc32 => ?_) (fun hc32 => ?_)
      · refine ks_aload_n dX16_block_37 rfl rfl ?_
        refine ks_getf (T := TX16) (kf := 46) kx_2414 rfl in_X16 cl_X16 (by decide) J29.2.1 rfl dX16_block_38 rfl ?_
        refine ks_iload_n dX16_block_41 rfl rfl ?_
        refine ks_aaldN (i := x) (b := (bkN (B x))) (by decide) (J29.1.at h341 (by decide)) rfl (by omega) (by decide) (hbf x (by omega)) dX16_block_42 rfl ?_
        refine ks_astore_n dX16_block_43 (by decide) rfl ?_
        refine ks_sub [(3, _), (0, _), (1, _), (2, _)] rfl ?_
        refine ks_iload_n dX16_block_44 rfl rfl ?_
        refine ks_tableOut (tgt := 189) dX16_block_45 (by decide) (by decide) ?_
        refine ks_aload_n dX16_block_189 rfl rfl ?_
        refine ks_iload_n dX16_block_190 rfl rfl ?_
        refine ks_callV (n := 1) (M' := mX16_middle) (c_md_middle J29.2.1 (hR.up J29.1 (fun x hx => by simp only [List.mem_cons, List.not_mem_nil, or_false] at hx; omega)) hW hx (J29.1.at h344 (by decide))) J29.2.1 cl_X16 rfl kx_2824 kx_2826 kxp_136 kx_30 kx_2827 (by decide +kernel) rfl (by decide) (Nat.le_of_ble_eq_true rfl) rfl dX16_block_191 rfl (fun z9 S9 y9 => ?_)
        obtain ⟨rfl, u9, f9⟩ := y9
        refine ks_lret rfl dX16_block_194 ?_
        exact ⟨rfl, V29, ⟨(J29.1.mono (by decide)).trans (u9.mono (by decide)), u9.at J29.2.1 (by decide), J29.2.2⟩, v29, f9⟩
      · exact absurd hc32 (by decide)
set_option maxRecDepth 100000 in
set_option maxHeartbeats 800000 in
theorem r_coinN {l : Launch} {G : ks_G} {d : Nat} {S : ks_S} {V : Nat → Value} (hO : S.2.2 290 = some (rfE V)) {n : Nat} {B : Nat → Bk} {R : List Nat} {fc : Nat → Nat} (v47 : V 47 = .int (nI n)) (hR : rbS S n B) (h342 : S.2.2 342 = some (kN 512 fc)) (v50 : V 50 = .int (nI R.length)) (hf : ∀ j, j < R.length → fc j = R.getD j 0) (hRl : R.length ≤ 512) (hm : ∀ x ∈ R, rmK n B x) {x t ix : Int32} (hx : x < 0) : ks_P l G yX16_coin mX16_coin (d + 1) [.ref 290, .int x, .int t, .int ix] S (fun z S' => z = some (.long (lN 0)) ∧ ∃ V', pbK [] [111] S S' V V' ∧ V' 111 = .int (nI 1)) := by
  obtain ⟨⟨bf, h341, hbf⟩, hB9, hn61⟩ := id hR
  refine ks_of (by decide) rfl rfl (Nat.le_of_ble_eq_true rfl) ?_
  show ks_X l G mX16_coin (d + 1) 0 [(0, .ref 290), (1, .int x), (2, .int t), (3, .int ix)] [] S _
  refine ks_aload_n dX16_coin_0 rfl rfl ?_
  refine ks_iload_n dX16_coin_1 rfl rfl ?_
  refine ks_if_lt (tgt := 37) dX16_coin_2 (by decide) rfl (fun hc2 => ?_) (fun hc2 => ?_)
  · refine ks_iconst (x := nI 0) dX16_coin_37 (by decide) rfl ?_
    refine ks_iconst (x := nI 1) dX16_coin_38 (by decide) rfl ?_
    refine ks_callV (n := 2) (M' := mX16_good) (c_md_good0 hO) hO cl_X16 rfl kx_2734 kx_2736 kxp_127 kx_30 kx_2737 (by decide +kernel) rfl (by decide) (Nat.le_of_ble_eq_true rfl) rfl dX16_coin_39 rfl (fun z39 S39 y39 => ?_)
    obtain ⟨rfl, V39, J39, v39⟩ := y39
    refine ks_if_neN (tgt := 47) (by decide) dX16_coin_42 (by decide) rfl (fun hc42 => ?_) (fun hc42 => ?_)
    · exact absurd hc42 (by decide)
    · refine ks_lconst (x := lN 0) dX16_coin_45 (by decide) rfl ?_
      refine ks_lret rfl dX16_coin_46 ?_
      exact ⟨rfl, _, J39, v39⟩
  · exact absurd hx hc2
set_option maxRecDepth 100000 in
set_option maxHeartbeats 800000 in
theorem r_coinO {l : Launch} {G : ks_G} {d : Nat} {S : ks_S} {V : Nat → Value} (hO : S.2.2 290 = some (rfE V)) {n : Nat} {B : Nat → Bk} {R : List Nat} {fc : Nat → Nat} (v47 : V 47 = .int (nI n)) (hR : rbS S n B) (h342 : S.2.2 342 = some (kN 512 fc)) (v50 : V 50 = .int (nI R.length)) (hf : ∀ j, j < R.length → fc j = R.getD j 0) (hRl : R.length ≤ 512) (hm : ∀ x ∈ R, rmK n B x) {x t ix : Int32} (hn : t < 0 ∨ nI n ≤ x) : ks_P l G yX16_coin mX16_coin (d + 1) [.ref 290, .int x, .int t, .int ix] S (fun z S' => z = some (.long (lN 0)) ∧ ∃ V', pbK [] [111] S S' V V' ∧ V' 111 = .int (nI 1)) := by
  obtain ⟨⟨bf, h341, hbf⟩, hB9, hn61⟩ := id hR
  refine ks_of (by decide) rfl rfl (Nat.le_of_ble_eq_true rfl) ?_
  show ks_X l G mX16_coin (d + 1) 0 [(0, .ref 290), (1, .int x), (2, .int t), (3, .int ix)] [] S _
  refine ks_aload_n dX16_coin_0 rfl rfl ?_
  refine ks_iload_n dX16_coin_1 rfl rfl ?_
  refine ks_if_lt (tgt := 37) dX16_coin_2 (by decide) rfl (fun hc2 => ?_) (fun hc2 => ?_)
  · refine ks_iconst (x := nI 0) dX16_coin_37 (by decide) rfl ?_
    refine ks_iconst (x := nI 1) dX16_coin_38 (by decide) rfl ?_
    refine ks_callV (n := 2) (M' := mX16_good) (c_md_good0 hO) hO cl_X16 rfl kx_2734 kx_2736 kxp_127 kx_30 kx_2737 (by decide +kernel) rfl (by decide) (Nat.le_of_ble_eq_true rfl) rfl dX16_coin_39 rfl (fun z39 S39 y39 => ?_)
    obtain ⟨rfl, V39, J39, v39⟩ := y39
    refine ks_if_neN (tgt := 47) (by decide) dX16_coin_42 (by decide) rfl (fun hc42 => ?_) (fun hc42 => ?_)
    · exact absurd hc42 (by decide)
    · refine ks_lconst (x := lN 0) dX16_coin_45 (by decide) rfl ?_
      refine ks_lret rfl dX16_coin_46 ?_
      exact ⟨rfl, _, J39, v39⟩
  · refine ks_iload_n dX16_coin_5 rfl rfl ?_
    refine ks_aload_n dX16_coin_6 rfl rfl ?_
    refine ks_getf (T := TX16) (kf := 47) kx_2415 rfl in_X16 cl_X16 (by decide) hO rfl dX16_coin_7 rfl ?_
    refine ks_tv v47 ?_
    refine ks_icmp_ge (tgt := 37) dX16_coin_10 (by decide) rfl (fun hc10 => ?_) (fun hc10 => ?_)
    · refine ks_iconst (x := nI 0) dX16_coin_37 (by decide) rfl ?_
      refine ks_iconst (x := nI 1) dX16_coin_38 (by decide) rfl ?_
      refine ks_callV (n := 2) (M' := mX16_good) (c_md_good0 hO) hO cl_X16 rfl kx_2734 kx_2736 kxp_127 kx_30 kx_2737 (by decide +kernel) rfl (by decide) (Nat.le_of_ble_eq_true rfl) rfl dX16_coin_39 rfl (fun z39 S39 y39 => ?_)
      obtain ⟨rfl, V39, J39, v39⟩ := y39
      refine ks_if_neN (tgt := 47) (by decide) dX16_coin_42 (by decide) rfl (fun hc42 => ?_) (fun hc42 => ?_)
      · exact absurd hc42 (by decide)
      · refine ks_lconst (x := lN 0) dX16_coin_45 (by decide) rfl ?_
        refine ks_lret rfl dX16_coin_46 ?_
        exact ⟨rfl, _, J39, v39⟩
    · refine ks_iload_n dX16_coin_13 rfl rfl ?_
      refine ks_if_lt (tgt := 37) dX16_coin_14 (by decide) rfl (fun hc14 => ?_) (fun hc14 => ?_)
      · refine ks_iconst (x := nI 0) dX16_coin_37 (by decide) rfl ?_
        refine ks_iconst (x := nI 1) dX16_coin_38 (by decide) rfl ?_
        refine ks_callV (n := 2) (M' := mX16_good) (c_md_good0 hO) hO cl_X16 rfl kx_2734 kx_2736 kxp_127 kx_30 kx_2737 (by decide +kernel) rfl (by decide) (Nat.le_of_ble_eq_true rfl) rfl dX16_coin_39 rfl (fun z39 S39 y39 => ?_)
        obtain ⟨rfl, V39, J39, v39⟩ := y39
        refine ks_if_neN (tgt := 47) (by decide) dX16_coin_42 (by decide) rfl (fun hc42 => ?_) (fun hc42 => ?_)
        · exact absurd hc42 (by decide)
        · refine ks_lconst (x := lN 0) dX16_coin_45 (by decide) rfl ?_
          refine ks_lret rfl dX16_coin_46 ?_
          exact ⟨rfl, _, J39, v39⟩
      · exact hn.elim (fun h => absurd h hc14) (fun h => absurd h hc10)
set_option maxRecDepth 100000 in
set_option maxHeartbeats 800000 in
theorem r_coinT {l : Launch} {G : ks_G} {d : Nat} {S : ks_S} {V : Nat → Value} (hO : S.2.2 290 = some (rfE V)) {n : Nat} {B : Nat → Bk} {R : List Nat} {fc : Nat → Nat} (v47 : V 47 = .int (nI n)) (hR : rbS S n B) (h342 : S.2.2 342 = some (kN 512 fc)) (v50 : V 50 = .int (nI R.length)) (hf : ∀ j, j < R.length → fc j = R.getD j 0) (hRl : R.length ≤ 512) (hm : ∀ x ∈ R, rmK n B x) {x t : Nat} {ix : Int32} (hx : x < n) (ht31 : t < 2 ^ 31) (ht : ¬ t < mg (bkM (B x)) 80) : ks_P l G yX16_coin mX16_coin (d + 1) [.ref 290, .int (nI x), .int (nI t), .int ix] S (fun z S' => z = some (.long (lN 0)) ∧ ∃ V', pbK [] [111] S S' V V' ∧ V' 111 = .int (nI 1)) := by
  obtain ⟨⟨bf, h341, hbf⟩, hB9, hn61⟩ := id hR
  obtain ⟨ob, pdb, ⟨ghb, ehb, khb, ahb⟩, wkb, bdb⟩ := hB9 x (by omega)
  obtain ⟨gp, Ap, gip, ⟨eyp, kgp⟩, ⟨hMNp, hN16p, hPBp, hP6p, hy6p⟩, hgp, hblp, Xp, hAp⟩ := id pdb
  have hc12 : mg (bkM (B x)) 80 ≤ 12 := (blk_b hblp).2
  refine ks_of (by decide) rfl rfl (Nat.le_of_ble_eq_true rfl) ?_
  show ks_X l G mX16_coin (d + 1) 0 [(0, .ref 290), (1, .int (nI x)), (2, .int (nI t)), (3, .int ix)] [] S _
  refine ks_aload_n dX16_coin_0 rfl rfl ?_
  refine ks_iload_n dX16_coin_1 rfl rfl ?_
  refine ks_if_ltN (tgt := 37) (by omega) dX16_coin_2 (by decide) rfl ?_
  refine ks_iload_n dX16_coin_5 rfl rfl ?_
  refine ks_aload_n dX16_coin_6 rfl rfl ?_
  refine ks_getf (T := TX16) (kf := 47) kx_2415 rfl in_X16 cl_X16 (by decide) hO rfl dX16_coin_7 rfl ?_
  refine ks_tv v47 ?_
  refine ks_icmp_geN (tgt := 37) (by omega) (by omega) dX16_coin_10 (by decide) rfl (fun hc10 => ?_) (fun hc10 => ?_)
  · omega
  · refine ks_iload_n dX16_coin_13 rfl rfl ?_
    refine ks_if_ltN (tgt := 37) (by omega) dX16_coin_14 (by decide) rfl ?_
    refine ks_iload_n dX16_coin_17 rfl rfl ?_
    refine ks_aload_n dX16_coin_18 rfl rfl ?_
    refine ks_getf (T := TX16) (kf := 46) kx_2414 rfl in_X16 cl_X16 (by decide) hO rfl dX16_coin_19 rfl ?_
    refine ks_iload_n dX16_coin_22 rfl rfl ?_
    refine ks_aaldN (i := x) (b := (bkN (B x))) (by decide) h341 rfl (by omega) (by decide) (hbf x (by omega)) dX16_coin_23 rfl ?_
    refine ks_getN (T := TX12) (kf := 3) kx_2063 rfl in_X12 cl_X12 (by decide) ob rfl dX16_coin_24 rfl ?_
    refine ks_getN (T := TX13) (kf := 1) kx_1814 rfl in_X13 cl_X13 (by decide) Xp.1 rfl dX16_coin_27 rfl ?_
    refine ks_icmp_geN (tgt := 37) (by omega) (by omega) dX16_coin_30 (by decide) rfl (fun hc30 => ?_) (fun hc30 => ?_)
    · refine ks_iconst (x := nI 0) dX16_coin_37 (by decide) rfl ?_
      refine ks_iconst (x := nI 1) dX16_coin_38 (by decide) rfl ?_
      refine ks_callV (n := 2) (M' := mX16_good) (c_md_good0 hO) hO cl_X16 rfl kx_2734 kx_2736 kxp_127 kx_30 kx_2737 (by decide +kernel) rfl (by decide) (Nat.le_of_ble_eq_true rfl) rfl dX16_coin_39 rfl (fun z39 S39 y39 => ?_)
      obtain ⟨rfl, V39, J39, v39⟩ := y39
      refine ks_if_neN (tgt := 47) (by decide) dX16_coin_42 (by decide) rfl (fun hc42 => ?_) (fun hc42 => ?_)
      · exact absurd hc42 (by decide)
      · refine ks_lconst (x := lN 0) dX16_coin_45 (by decide) rfl ?_
        refine ks_lret rfl dX16_coin_46 ?_
        exact ⟨rfl, _, J39, v39⟩
    · omega
set_option maxRecDepth 100000 in
set_option maxHeartbeats 800000 in
theorem c_mr_coin {l : Launch} {G : ks_G} {d : Nat} {S : ks_S} {V : Nat → Value} (hO : S.2.2 290 = some (rfE V)) {n : Nat} {B : Nat → Bk} {R : List Nat} {fc : Nat → Nat} (v47 : V 47 = .int (nI n)) (hR : rbS S n B) (h342 : S.2.2 342 = some (kN 512 fc)) (v50 : V 50 = .int (nI R.length)) (hf : ∀ j, j < R.length → fc j = R.getD j 0) (hRl : R.length ≤ 512) (hm : ∀ x ∈ R, rmK n B x) {x t xn : Nat} {ix : Int32} (hix : ix = nI xn) (hxn : xn < 2 ^ 32) (hx : x < n) (ht : t < mg (bkM (B x)) 80) : ks_P l G yX16_coin mX16_coin (d + 4) [.ref 290, .int (nI x), .int (nI t), .int ix] S (fun z S' => z = some (.long (if plR B xn (idB (bkM (B x)) t) R = 0 then -1 else lN (rmV B (R.getD (plR B xn (idB (bkM (B x)) t) R - 1) 0)))) ∧ ∃ V', pbK [] [40, 41, 111] S S' V V' ∧ V' 111 = .int (nI 0)) := by
  obtain ⟨⟨bf, h341, hbf⟩, hB9, hn61⟩ := id hR
  subst hix
  obtain ⟨ob, pdb, ⟨ghb, ehb, khb, ahb⟩, wkb, bdb⟩ := hB9 x (by omega)
  obtain ⟨gp, Ap, gip, ⟨eyp, kgp⟩, ⟨hMNp, hN16p, hPBp, hP6p, hy6p⟩, hgp, hblp, Xp, hAp⟩ := id pdb
  have hc12 : mg (bkM (B x)) 80 ≤ 12 := (blk_b hblp).2
  refine ks_of (by decide) rfl rfl (Nat.le_of_ble_eq_true rfl) ?_
  show ks_X l G mX16_coin (d + 4) 0 [(0, .ref 290), (1, .int (nI x)), (2, .int (nI t)), (3, .int (nI xn))] [] S _
  refine ks_aload_n dX16_coin_0 rfl rfl ?_
  refine ks_iload_n dX16_coin_1 rfl rfl ?_
  refine ks_if_ltN (tgt := 37) (by omega) dX16_coin_2 (by decide) rfl ?_
  refine ks_iload_n dX16_coin_5 rfl rfl ?_
  refine ks_aload_n dX16_coin_6 rfl rfl ?_
  refine ks_getf (T := TX16) (kf := 47) kx_2415 rfl in_X16 cl_X16 (by decide) hO rfl dX16_coin_7 rfl ?_
  refine ks_tv v47 ?_
  refine ks_icmp_geN (tgt := 37) (by omega) (by omega) dX16_coin_10 (by decide) rfl (fun hc10 => ?_) (fun hc10 => ?_)
  · refine ks_iconst (x := nI 0) dX16_coin_37 (by decide) rfl ?_
    refine ks_iconst (x := nI 1) dX16_coin_38 (by decide) rfl ?_
    omega
  · refine ks_iload_n dX16_coin_13 rfl rfl ?_
    refine ks_if_ltN (tgt := 37) (by omega) dX16_coin_14 (by decide) rfl ?_
    refine ks_iload_n dX16_coin_17 rfl rfl ?_
    refine ks_aload_n dX16_coin_18 rfl rfl ?_
    refine ks_getf (T := TX16) (kf := 46) kx_2414 rfl in_X16 cl_X16 (by decide) hO rfl dX16_coin_19 rfl ?_
    refine ks_iload_n dX16_coin_22 rfl rfl ?_
    refine ks_aaldN (i := x) (b := (bkN (B x))) (by decide) h341 rfl (by omega) (by decide) (hbf x (by omega)) dX16_coin_23 rfl ?_
    refine ks_getN (T := TX12) (kf := 3) kx_2063 rfl in_X12 cl_X12 (by decide) ob rfl dX16_coin_24 rfl ?_
    refine ks_getN (T := TX13) (kf := 1) kx_1814 rfl in_X13 cl_X13 (by decide) Xp.1 rfl dX16_coin_27 rfl ?_
    refine ks_icmp_geN (tgt := 37) (by omega) (by omega) dX16_coin_30 (by decide) rfl (fun hc30 => ?_) (fun hc30 => ?_)
    · refine ks_iconst (x := nI 0) dX16_coin_37 (by decide) rfl ?_
      refine ks_iconst (x := nI 1) dX16_coin_38 (by decide) rfl ?_
      omega
    · refine ks_iconst (x := nI 1) dX16_coin_33 (by decide) rfl ?_
      refine ks_goto (tgt := 38) dX16_coin_34 (by decide) ?_
      refine ks_iconst (x := nI 1) dX16_coin_38 (by decide) rfl ?_
      refine ks_callV (n := 2) (M' := mX16_good) (c_md_good1 hO) hO cl_X16 rfl kx_2734 kx_2736 kxp_127 kx_30 kx_2737 (by decide +kernel) rfl (by decide) (Nat.le_of_ble_eq_true rfl) rfl dX16_coin_39 rfl (fun z39 S39 y39 => ?_)
      obtain ⟨rfl, V39, J39, v39⟩ := y39
      refine ks_if_neN (tgt := 47) (by decide) dX16_coin_42 (by decide) rfl (fun hc42 => ?_) (fun hc42 => ?_)
      · refine ks_aload_n dX16_coin_47 rfl rfl ?_
        refine ks_aload_n dX16_coin_48 rfl rfl ?_
        refine ks_getf (T := TX16) (kf := 46) kx_2414 rfl in_X16 cl_X16 (by decide) J39.2.1 rfl dX16_coin_49 rfl ?_
        refine ks_iload_n dX16_coin_52 rfl rfl ?_
        refine ks_aaldN (i := x) (b := (bkN (B x))) (by decide) (J39.1.at h341 (by decide)) rfl (by omega) (by decide) (hbf x (by omega)) dX16_coin_53 rfl ?_
        refine ks_getN (T := TX12) (kf := 3) kx_2063 rfl in_X12 cl_X12 (by decide) (J39.1.at ob (by simp only [List.mem_cons, List.not_mem_nil, or_false]; omega)) rfl dX16_coin_54 rfl ?_
        refine ks_getN (T := TX13) (kf := 8) kx_1828 rfl in_X13 cl_X13 (by decide) (J39.1.at Xp.1 (by simp only [List.mem_cons, List.not_mem_nil, or_false]; omega)) rfl dX16_coin_57 rfl ?_
        refine ks_bipush (x := nI 32) dX16_coin_60 (by decide) rfl ?_
        refine ks_iload_n dX16_coin_62 rfl rfl ?_
        refine ks_mulN dX16_coin_63 rfl ?_
        refine ks_iload_n dX16_coin_64 rfl rfl ?_
        refine ks_i2l dX16_coin_65 rfl ?_
        refine ks_ldc2 dX16_coin_66 kx_1953 rfl ?_
        refine ks_tl (y := lN 4294967295) rfl ?_
        refine ks_land dX16_coin_69 rfl ?_
        refine ks_tl (y := lN xn) (low_l2 (by omega)) ?_
        refine ks_aload_n dX16_coin_70 rfl rfl ?_
        refine ks_getf (T := TX16) (kf := 49) kx_2417 rfl in_X16 cl_X16 (by decide) J39.2.1 rfl dX16_coin_71 rfl ?_
        refine ks_aload_n dX16_coin_74 rfl rfl ?_
        refine ks_getf (T := TX16) (kf := 50) kx_2418 rfl in_X16 cl_X16 (by decide) J39.2.1 rfl dX16_coin_75 rfl ?_
        refine ks_tv ((J39.2.2 50 (by decide)).trans v50) ?_
        refine ks_callV (n := 5) (M' := mX16_findCoin) (c_md_findCoin (R := R) J39.2.1 (hR.up J39.1 (fun x hx => by simp only [List.mem_cons, List.not_mem_nil, or_false] at hx; omega)) (J39.1.at Xp.2.2.1 (by simp only [List.mem_cons, List.not_mem_nil, or_false]; omega)) Xp.2.2.2 (a := 32 * t) (by omega) (by decide) (by omega) (J39.1.at h342 (by decide)) ⟨by decide, by decide⟩ hf hRl hm) J39.2.1 cl_X16 rfl kx_2130 kx_2132 kxp_80 kx_30 kx_2133 (by decide +kernel) rfl (by decide) (Nat.le_of_ble_eq_true rfl) rfl dX16_coin_78 rfl (fun z9 S9 y9 => ?_)
        obtain ⟨rfl, hq9y⟩ := y9
        obtain rfl := hq9y.symm
        have ep : plR B xn (fun j => gip (32 * t + j)) R = plR B xn (idB (bkM (B x)) t) R := plR_c (fun j hj => (hAp t ht).2.2.2 j hj)
        rw [ep]
        obtain ⟨p9, ep9⟩ : ∃ p, p = plR B xn (idB (bkM (B x)) t) R := ⟨_, rfl⟩
        have hp9 : p9 ≤ R.length := by rw [ep9]; exact plR_le _ _ _ _
        rw [← ep9]
        refine ks_istore dX16_coin_81 (by decide) rfl ?_
        refine ks_sub [(4, _), (0, _), (1, _), (2, _), (3, _)] rfl ?_
        refine ks_iload dX16_coin_83 rfl rfl ?_
        refine ks_if_geD (tgt := 94) (by omega) dX16_coin_85 (by decide) rfl (fun hc85 => ?_) (fun hc85 => ?_)
        · refine ks_aload_n dX16_coin_94 rfl rfl ?_
          refine ks_aload_n dX16_coin_95 rfl rfl ?_
          refine ks_getf (T := TX16) (kf := 49) kx_2417 rfl in_X16 cl_X16 (by decide) J39.2.1 rfl dX16_coin_96 rfl ?_
          refine ks_iload dX16_coin_99 rfl rfl ?_
          refine ks_ti (nI_D (by omega)) ?_
          refine ks_ialdN (i := p9 - 1) (J39.1.at h342 (by decide)) rfl (by omega) (by decide) dX16_coin_101 rfl ?_
          rw [hf (p9 - 1) (by omega)]
          refine ks_callV (n := 1) (M' := mX16_valueOf) (c_md_valueOf J39.2.1 (hR.up J39.1 (fun x hx => by simp only [List.mem_cons, List.not_mem_nil, or_false] at hx; omega)) (hm _ (gD_mem (by omega)))) J39.2.1 cl_X16 rfl kx_2137 kx_2139 kxp_81 kx_30 kx_2140 (by decide +kernel) rfl (by decide) (Nat.le_of_ble_eq_true rfl) rfl dX16_coin_102 rfl (fun z8 S8 y8 => ?_)
          obtain ⟨rfl, V8, J8⟩ := y8
          refine ks_lret rfl dX16_coin_105 ?_
          exact ⟨by rw [if_neg hc85], V8, (J39.mono (by decide) (by decide)).trans (J8.pb.mono (by decide) (by decide)), (J8.pb.2.2 111 (by decide)).trans v39⟩
        · refine ks_ldc2 dX16_coin_88 kx_2276 rfl ?_
          refine ks_goto (tgt := 105) dX16_coin_91 (by decide) ?_
          refine ks_lret rfl dX16_coin_105 ?_
          exact ⟨by rw [if_pos hc85], V39, J39.mono (by decide) (by decide), v39⟩
      · exact absurd hc42 (by decide)
def rmS (B : Nat → Bk) (R : List Nat) : Nat → Nat
  | 0 => 0
  | i + 1 => rmS B R i + rmV B (R.getD i 0)
set_option maxRecDepth 100000 in
set_option maxHeartbeats 800000 in
theorem l_mrCoins {l : Launch} {G : ks_G} {d : Nat} {S : ks_S} {V : Nat → Value} (hO : S.2.2 290 = some (rfE V)) {n : Nat} {B : Nat → Bk} {R : List Nat} {fc : Nat → Nat} (hR : rbS S n B) (h342 : S.2.2 342 = some (kN 512 fc)) (v50 : V 50 = .int (nI R.length)) (hf : ∀ j, j < R.length → fc j = R.getD j 0) (hRl : R.length ≤ 512) (hm : ∀ x ∈ R, rmK n B x) {P9 : Option Value → ks_S → Prop} (hk : ∀ (S1 : ks_S) (V1 : Nat → Value), pbK [] [40, 41] S S1 V V1 → P9 (some (.long (lN (rmS B R R.length)))) S1) : ∀ (u i : Nat) (S1 : ks_S) (V1 : Nat → Value), i + u = R.length → pbK [] [40, 41] S S1 V V1 → ks_X l G mX16_coins (d + 4) 4 [(0, .ref 290), (1, .long (lN (rmS B R i))), (3, .int (nI i))] [] S1 P9 := by
  intro u
  induction u with
  | zero =>
    intro i S1 V1 hi K1
    have v1 : V1 50 = .int (nI R.length) := (K1.2.2 50 (by decide)).trans v50
    have f1 := K1.1.at h342 (by decide)
    have R1 := hR.up K1.1 (fun x hx => by simp only [List.mem_cons, List.not_mem_nil, or_false] at hx; omega)
    obtain rfl : i = R.length := hi
    refine ks_iload_n dX16_coins_4 rfl rfl ?_
    refine ks_aload_n dX16_coins_5 rfl rfl ?_
    refine ks_getf (T := TX16) (kf := 50) kx_2418 rfl in_X16 cl_X16 (by decide) K1.2.1 rfl dX16_coins_6 rfl ?_
    refine ks_tv v1 ?_
    refine ks_icmp_geN (tgt := 31) (by omega) (by omega) dX16_coins_9 (by decide) rfl (fun h1 => ?_) (fun h1 => absurd h1 (by omega))
    refine ks_lload_n dX16_coins_31 rfl rfl ?_
    refine ks_lret rfl dX16_coins_32 ?_
    exact hk S1 V1 K1
  | succ u ih =>
    intro i S1 V1 hi K1
    have v1 : V1 50 = .int (nI R.length) := (K1.2.2 50 (by decide)).trans v50
    have f1 := K1.1.at h342 (by decide)
    have R1 := hR.up K1.1 (fun x hx => by simp only [List.mem_cons, List.not_mem_nil, or_false] at hx; omega)
    refine ks_iload_n dX16_coins_4 rfl rfl ?_
    refine ks_aload_n dX16_coins_5 rfl rfl ?_
    refine ks_getf (T := TX16) (kf := 50) kx_2418 rfl in_X16 cl_X16 (by decide) K1.2.1 rfl dX16_coins_6 rfl ?_
    refine ks_tv v1 ?_
    refine ks_icmp_geN (tgt := 31) (by omega) (by omega) dX16_coins_9 (by decide) rfl (fun h1 => absurd h1 (by omega)) (fun h1 => ?_)
    refine ks_lload_n dX16_coins_12 rfl rfl ?_
    refine ks_aload_n dX16_coins_13 rfl rfl ?_
    refine ks_aload_n dX16_coins_14 rfl rfl ?_
    refine ks_getf (T := TX16) (kf := 49) kx_2417 rfl in_X16 cl_X16 (by decide) K1.2.1 rfl dX16_coins_15 rfl ?_
    refine ks_iload_n dX16_coins_18 rfl rfl ?_
    refine ks_ialdN (i := i) f1 rfl (by omega) (by decide) dX16_coins_19 rfl ?_
    rw [hf i (by omega)]
    refine ks_callV (n := 1) (M' := mX16_valueOf) (c_md_valueOf K1.2.1 R1 (hm _ (gD_mem (by omega)))) K1.2.1 cl_X16 rfl kx_2137 kx_2139 kxp_81 kx_30 kx_2140 (by decide +kernel) rfl (by decide) (Nat.le_of_ble_eq_true rfl) rfl dX16_coins_20 rfl (fun z2 S2 y2 => ?_)
    obtain ⟨rfl, V2, J2⟩ := y2
    refine ks_laddN dX16_coins_23 rfl ?_
    refine ks_lstore_n dX16_coins_24 (by decide) rfl ?_
    refine ks_sub [(1, _), (0, _), (3, _)] rfl ?_
    refine ks_incN (c := 1) (e := i + 1) dX16_coins_25 rfl (by decide) rfl (by decide) rfl ?_
    refine ks_sub [(3, _), (0, _), (1, _)] rfl ?_
    refine ks_goto (tgt := 4) dX16_coins_28 (by decide) ?_
    exact ks_sub [(0, _), (1, .long (lN (rmS B R (i + 1)))), (3, _)] rfl (ih (i + 1) S2 V2 (by omega) (K1.trans J2.pb))
set_option maxRecDepth 100000 in
set_option maxHeartbeats 800000 in
theorem c_mr_coins {l : Launch} {G : ks_G} {d : Nat} {S : ks_S} {V : Nat → Value} (hO : S.2.2 290 = some (rfE V)) {n : Nat} {B : Nat → Bk} {R : List Nat} {fc : Nat → Nat} (hR : rbS S n B) (h342 : S.2.2 342 = some (kN 512 fc)) (v50 : V 50 = .int (nI R.length)) (hf : ∀ j, j < R.length → fc j = R.getD j 0) (hRl : R.length ≤ 512) (hm : ∀ x ∈ R, rmK n B x) : ks_P l G yX16_coins mX16_coins (d + 4) [.ref 290] S (fun z S' => z = some (.long (lN (rmS B R R.length))) ∧ ∃ V', pbK [] [40, 41] S S' V V') := by
  refine ks_of (by decide) rfl rfl (Nat.le_of_ble_eq_true rfl) ?_
  show ks_X l G mX16_coins (d + 4) 0 [(0, .ref 290)] [] S _
  refine ks_lconst (x := lN 0) dX16_coins_0 (by decide) rfl ?_
  refine ks_lstore_n dX16_coins_1 (by decide) rfl ?_
  refine ks_sub [(1, _), (0, _)] rfl ?_
  refine ks_iconst (x := nI 0) dX16_coins_2 (by decide) rfl ?_
  refine ks_istore_n dX16_coins_3 (by decide) rfl ?_
  refine ks_sub [(3, _), (0, _), (1, _)] rfl ?_
  exact ks_sub [(0, _), (1, .long (lN (rmS B R 0))), (3, _)] rfl (l_mrCoins hO hR h342 v50 hf hRl hm (fun S1 V1 K1 => ⟨rfl, V1, K1⟩) R.length 0 S V (Nat.zero_add _) ⟨ks_up.rf _ _, hO, fun _ _ => rfl⟩)
