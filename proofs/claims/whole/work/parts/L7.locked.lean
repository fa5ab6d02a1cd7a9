/-! THE REFERENCE: locked, work, act -/
theorem ptQ.up0 {S S1 : ks_S} {P y N L t b k p m u e : Nat} {G : Nat → Nat} (h : ptQ S P y N G L t b k p m u e) (hy : 564 < y ∧ 564 < P) (hu : ks_up S S1 [290]) : ptQ S1 P y N G L t b k p m u e := h.up hu (fun x hx => by rw [List.mem_singleton] at hx; omega)
theorem mqK.sk {S S1 : ks_S} {V V1 : Nat → Value} {F : Nat} (h : skK S S1 V V1) : mqK S S1 V V1 F F := ⟨(sfK.of h.1).mono (by decide), fun j a => h.2.2 j (fun h => a (by rw [h]; decide)) (fun h => a (by rw [h]; decide))⟩
theorem mqS.sk {S S1 : ks_S} {V : Nat → Value} {F : Nat} {xs ys : List (List Nat)} {vs : Vs} {Gp : Pt} {P y N L t b k p m u e inp : Nat} {G9 : Nat → Nat} {V1 : Nat → Value} (h : mqS S V F xs ys vs Gp P y N G9 L t b k p m u e inp) (hT9 : mqT P y N G9 k u e inp) (hu : skK S S1 V V1) : mqS S1 V1 F xs ys vs Gp P y N G9 L t b k p m u e inp := h.obj hT9 hu.1 hu.2.1 (fun j hj => hu.2.2 j (fun q => absurd (q ▸ hj) (by decide)) (fun q => absurd (q ▸ hj) (by decide)))
theorem mqK.put {S S1 : ks_S} {V V1 : Nat → Value} {F F1 j : Nat} {v : Value} (h : mqK S S1 V V1 F F1) (hj : j ∈ LMf) : mqK S (ks_set S1 290 (rfE (va_up V1 j v))) V (va_up V1 j v) F F1 := ⟨h.1.trans (sfK.of (ks_up_set _ _ (by decide))), fun k hk => (va_up_ne _ _ (fun q => hk (by rw [q]; exact hj))).trans (h.2 k hk)⟩
theorem stK.op {S S1 : ks_S} {V : Nat → Value} {F : Nat} {xs ys : List (List Nat)} {vs : Vs} {xs' : List (List Nat)} {ok : Prop} (h : stK S S1 V F ok xs xs' ys vs) (hok : ok) (v74 : V 74 = .int (ks_bo false)) : opR S S1 V F (some (xs', ys)) vs := by
  obtain ⟨V', F', m, ⟨-, h2, h3⟩ | ⟨h1, -⟩⟩ := h
  · exact ⟨V', F', xs', ys, m, h3, .inl ⟨h2.trans v74, rfl⟩⟩
  · exact absurd hok h1
theorem mqR.non {S S1 : ks_S} {V : Nat → Value} {F : Nat} {xs ys : List (List Nat)} {vs : Vs} {Gp : Pt} {P y N L t b k p m u e inp : Nat} {G9 : Nat → Nat} {V1 : Nat → Value} {F1 : Nat} {r : Option (List (List Nat) × List (List Nat))} (hk : mqK S S1 V V1 F F1) (h : mqS S1 V1 F1 xs ys vs Gp P y N G9 L t b k p m u e inp) (h74 : V1 74 = .int (ks_bo true)) (hr : r = none) : mqR S S1 V F r vs Gp P y N G9 L t b k p m u e inp := ⟨V1, F1, xs, ys, hk, h, .inr ⟨h74, fun q hq => by rw [hr] at hq; cases hq⟩⟩
set_option maxRecDepth 100000 in
set_option maxHeartbeats 1600000 in
theorem c_rs_locked {l : Launch} {G : ks_G} {d : Nat} {S : ks_S} {V : Nat → Value} {F : Nat} {xs ys : List (List Nat)} {vs : Vs} {Gp : Pt} {P y N L t b k p m u e inp : Nat} {G9 : Nat → Nat} (hM : mqS S V F xs ys vs Gp P y N G9 L t b k p m u e inp) (hT9 : mqT P y N G9 k u e inp) (h0 : 0 < xs.length) (v74 : V 74 = .int (ks_bo false)) : ks_P l G yX16_locked mX16_locked (d + 3) [.ref 290] S (fun z S' => z = none ∧ mqR S S' V F (if (0 < xs.length ∧ (xs.getD 0 []).length ≤ 5) ∧ lkB G9 L p e inp (numV (xs.getD 0 [])) = true then some (xs, ys) else none) vs Gp P y N G9 L t b k p m u e inp) := by
  obtain ⟨hO, hK, hG, hh, h369, hlow, h368⟩ := id hM
  have hxb : ∀ j, j < xs.length → ∀ b ∈ xs.getD j [], b < 256 := fun j hj => by
    obtain ⟨_, _, _, _, h9, _⟩ := hK
    exact rsK_b h9 hj
  obtain ⟨hg9, hi9, hyP, -, -⟩ := id hT9
  refine ks_of (by decide) rfl rfl (Nat.le_of_ble_eq_true rfl) ?_
  show ks_X l G mX16_locked (d + 3) 0 [(0, .ref 290)] [] S _
  refine ks_aload_n dX16_locked_0 rfl rfl ?_
  refine ks_iconst (x := nI 0) dX16_locked_1 (by decide) rfl ?_
  refine ks_iconst (x := nI 5) dX16_locked_2 (by decide) rfl ?_
  refine ks_callV (n := 2) (M' := mX16_numberAt) (c_rs_numberAt (d := d + 2) hO hK (k := 0) (mo := 5) h0 (by decide)) hO cl_X16 rfl kx_2196 kx_2198 kxp_94 kx_30 kx_2199 (by decide +kernel) rfl (by decide) (Nat.le_of_ble_eq_true rfl) rfl dX16_locked_3 rfl (fun z1 S1 y1 => ?_)
  obtain ⟨rfl, y1a, y1b⟩ := y1
  by_cases c1 : (xs.getD 0 []).length ≤ 5
  · obtain rfl := (y1a c1).symm
    rw [if_pos c1]
    have nb0 := (numV_b (hxb 0 h0) c1).2 (by decide)
    obtain ⟨n0, en0⟩ : ∃ n, n = numV (xs.getD 0 []) := ⟨_, rfl⟩
    rw [← en0] at nb0 ⊢
    have nb1 : n0.natAbs < 2 ^ 39 := nb0
    have M1 := hM
    have K1 := mqK.rf S V F
    have w741 := v74
    by_cases neg : n0 < 0
    · obtain ⟨pt1, ⟨w761, w771, w781⟩, -⟩ := id M1.2.2.1
      obtain ⟨g1, A1, cc1, ⟨ey1, kg1⟩, ⟨hLN1, hN161, hPB1, ht121⟩, hg1, htx1, hP1, hA1, ⟨a01, a11⟩, -, -, -⟩ := id pt1
      have bd := tx_bd htx1
      have zb := tx_in htx1 inp hi9
      refine ks_lstore_n dX16_locked_6 (by decide) rfl ?_
      refine ks_sub [(1, _), (0, _)] rfl ?_
      refine ks_aload_n dX16_locked_7 rfl rfl ?_
      refine ks_aload_n dX16_locked_8 rfl rfl ?_
      refine ks_getf (T := TX16) (kf := 76) kx_2444 rfl in_X16 cl_X16 (by decide) M1.1 rfl dX16_locked_9 rfl ?_
      refine ks_tv w761 ?_
      refine ks_getN (T := TX13) (kf := 0) kx_1813 rfl in_X13 cl_X13 (by decide) hP1 rfl dX16_locked_12 rfl ?_
      refine ks_aload_n dX16_locked_15 rfl rfl ?_
      refine ks_getf (T := TX16) (kf := 76) kx_2444 rfl in_X16 cl_X16 (by decide) M1.1 rfl dX16_locked_16 rfl ?_
      refine ks_tv w761 ?_
      refine ks_getN (T := TX13) (kf := 3) kx_1818 rfl in_X13 cl_X13 (by decide) hP1 rfl dX16_locked_19 rfl ?_
      refine ks_aload_n dX16_locked_22 rfl rfl ?_
      refine ks_getf (T := TX16) (kf := 77) kx_2445 rfl in_X16 cl_X16 (by decide) M1.1 rfl dX16_locked_23 rfl ?_
      refine ks_tv w771 ?_
      refine ks_ialdN (i := t) (show S.2.2 (P + 2) = some (kN 12 (A1 1)) from hA1 1 (by decide)) rfl (by omega) (by decide) dX16_locked_26 rfl ?_
      rw [a11]
      refine ks_iconst (x := nI 4) dX16_locked_27 (by decide) rfl ?_
      refine ks_subN (by omega) dX16_locked_28 rfl ?_
      refine ks_iconst (x := nI 4) dX16_locked_29 (by decide) rfl ?_
      refine ks_callV (n := 3) (M' := mX16_number) (c_pt_num (d := d + 2) pt1 (i := e - 4) (n := 4) (by omega) (by decide)) M1.1 cl_X16 rfl kx_2020 kx_2022 kxp_68 kx_30 kx_2023 (by decide +kernel) rfl (by decide) (Nat.le_of_ble_eq_true rfl) rfl dX16_locked_30 rfl (fun z2 S2 y2 => ?_)
      obtain ⟨rfl, hT2⟩ := y2
      obtain rfl := hT2.symm
      refine ks_lstore_n dX16_locked_33 (by decide) rfl ?_
      refine ks_sub [(3, _), (0, _), (1, _)] rfl ?_
      refine ks_aload_n dX16_locked_34 rfl rfl ?_
      refine ks_aload_n dX16_locked_35 rfl rfl ?_
      refine ks_getf (T := TX16) (kf := 76) kx_2444 rfl in_X16 cl_X16 (by decide) M1.1 rfl dX16_locked_36 rfl ?_
      refine ks_tv w761 ?_
      refine ks_getN (T := TX13) (kf := 0) kx_1813 rfl in_X13 cl_X13 (by decide) hP1 rfl dX16_locked_39 rfl ?_
      refine ks_aload_n dX16_locked_42 rfl rfl ?_
      refine ks_aload_n dX16_locked_43 rfl rfl ?_
      refine ks_getf (T := TX16) (kf := 76) kx_2444 rfl in_X16 cl_X16 (by decide) M1.1 rfl dX16_locked_44 rfl ?_
      refine ks_tv w761 ?_
      refine ks_aload_n dX16_locked_47 rfl rfl ?_
      refine ks_getf (T := TX16) (kf := 77) kx_2445 rfl in_X16 cl_X16 (by decide) M1.1 rfl dX16_locked_48 rfl ?_
      refine ks_tv w771 ?_
      refine ks_aload_n dX16_locked_51 rfl rfl ?_
      refine ks_getf (T := TX16) (kf := 78) kx_2446 rfl in_X16 cl_X16 (by decide) M1.1 rfl dX16_locked_52 rfl ?_
      refine ks_tv w781 ?_
      refine ks_callV (n := 3) (M' := mX16_input) (c_pt_input (d := d) M1.1 pt1 (i := inp) hi9) M1.1 cl_X16 rfl kx_2122 kx_2124 kxp_78 kx_30 kx_2125 (by decide +kernel) rfl (by decide) (Nat.le_of_ble_eq_true rfl) rfl dX16_locked_55 rfl (fun z3 S3 y3 => ?_)
      obtain ⟨rfl, V3, sk3⟩ := y3
      have M3 := M1.sk hT9 sk3
      have w743 := (sk3.2.2 74 (by decide) (by decide)).trans w741
      obtain ⟨pt3, ⟨w763, w773, w783⟩, -⟩ := id M3.2.2.1
      obtain ⟨g3, A3, cc3, ⟨ey3, kg3⟩, ⟨hLN3, hN163, hPB3, ht123⟩, hg3, htx3, hP3, hA3, ⟨a03, a13⟩, -, -, -⟩ := id pt3
      refine ks_bipush (x := nI 36) dX16_locked_58 (by decide) rfl ?_
      refine ks_addN dX16_locked_60 rfl ?_
      refine ks_callV (n := 2) (M' := mX16_script) (c_pt_scrI (d := d + 1) M3.1 pt3 (i := inp) hi9) M3.1 cl_X16 rfl kx_2126 kx_2128 kxp_79 kx_30 kx_2129 (by decide +kernel) rfl (by decide) (Nat.le_of_ble_eq_true rfl) rfl dX16_locked_61 rfl (fun z4 S4 y4 => ?_)
      obtain ⟨rfl, V4, sk4, -, -⟩ := y4
      have M4 := M3.sk hT9 sk4
      have w744 := (sk4.2.2 74 (by decide) (by decide)).trans w743
      have K4 := (K1.trans (mqK.sk (F := F) sk3)).trans (mqK.sk sk4)
      obtain ⟨pt4, ⟨w764, w774, w784⟩, -⟩ := id M4.2.2.1
      obtain ⟨g4, A4, cc4, ⟨ey4, kg4⟩, ⟨hLN4, hN164, hPB4, ht124⟩, hg4, htx4, hP4, hA4, ⟨a04, a14⟩, -, -, -⟩ := id pt4
      refine ks_istore dX16_locked_64 (by decide) rfl ?_
      refine ks_sub [(5, _), (0, _), (1, _), (3, _)] rfl ?_
      refine ks_aload_n dX16_locked_66 rfl rfl ?_
      refine ks_dup dX16_locked_67 rfl rfl ?_
      refine ks_getf (T := TX16) (kf := 74) kx_2442 rfl in_X16 cl_X16 (by decide) M4.1 rfl dX16_locked_68 rfl ?_
      refine ks_tv w744 ?_
      refine ks_lload_n dX16_locked_71 rfl rfl ?_
      refine ks_lconst (x := lN 0) dX16_locked_72 (by decide) rfl ?_
      refine ks_lif_lt (tgt := 133) dX16_locked_73 rfl dX16_locked_74 (by decide) rfl (fun h9 => ?_) (fun h9 => ?_)
      · refine ks_iconst (x := nI 1) dX16_locked_133 (by decide) rfl ?_
        refine ks_goto (tgt := 138) dX16_locked_134 (by decide) ?_
        refine ks_ior dX16_locked_138 rfl ?_
        refine ks_ti (y := ks_bo true) (by decide) ?_
        refine ks_putf (T := TX16) (kf := 74) kx_2442 rfl in_X16 tyX16_ok nmX16 cl_X16 (by decide) M4.1 (Nat.le_of_ble_eq_true rfl) rfl rfl (ks_bo_z _) rfl dX16_locked_139 rfl ?_
        refine md_put mdp_74 ?_
        refine ks_ret rfl dX16_locked_142 ?_
        have M5 := M4.put hT9 (j := 74) (v := .int (ks_bo true)) (by decide)
        have K5 := K4.put (j := 74) (v := .int (ks_bo true)) (by decide)
        exact ⟨rfl, mqR.non K5 M5 (va_up_self _ _ _) (if_neg (fun h => by
          have h9 := (of_decide_eq_true h.2).1
          omega))⟩
      · exact absurd ((iL_lt (a := n0) (b := 0) (by omega) (by omega) (by omega) (by omega)).mpr neg) h9
    · obtain ⟨nn, rfl⟩ : ∃ nn : Nat, n0 = nn := ⟨n0.toNat, by omega⟩
      refine ks_tl (y := lN nn) rfl ?_
      obtain ⟨pt1, ⟨w761, w771, w781⟩, -⟩ := id M1.2.2.1
      obtain ⟨g1, A1, cc1, ⟨ey1, kg1⟩, ⟨hLN1, hN161, hPB1, ht121⟩, hg1, htx1, hP1, hA1, ⟨a01, a11⟩, -, -, -⟩ := id pt1
      have bd := tx_bd htx1
      have zb := tx_in htx1 inp hi9
      obtain ⟨lk, elk⟩ : ∃ x, x = ks_num G9 (e - 4) 4 := ⟨_, rfl⟩
      have lkb := num4_lt hg9 (e - 4)
      obtain ⟨sq, esq⟩ : ∃ x, x = ks_num G9 (iS G9 L p inp + iZ G9 L p inp) 4 := ⟨_, rfl⟩
      have sqb := num4_lt hg9 (iS G9 L p inp + iZ G9 L p inp)
      rw [← elk] at lkb
      rw [← esq] at sqb
      refine ks_lstore_n dX16_locked_6 (by decide) rfl ?_
      refine ks_sub [(1, _), (0, _)] rfl ?_
      refine ks_aload_n dX16_locked_7 rfl rfl ?_
      refine ks_aload_n dX16_locked_8 rfl rfl ?_
      refine ks_getf (T := TX16) (kf := 76) kx_2444 rfl in_X16 cl_X16 (by decide) M1.1 rfl dX16_locked_9 rfl ?_
      refine ks_tv w761 ?_
      refine ks_getN (T := TX13) (kf := 0) kx_1813 rfl in_X13 cl_X13 (by decide) hP1 rfl dX16_locked_12 rfl ?_
      refine ks_aload_n dX16_locked_15 rfl rfl ?_
      refine ks_getf (T := TX16) (kf := 76) kx_2444 rfl in_X16 cl_X16 (by decide) M1.1 rfl dX16_locked_16 rfl ?_
      refine ks_tv w761 ?_
      refine ks_getN (T := TX13) (kf := 3) kx_1818 rfl in_X13 cl_X13 (by decide) hP1 rfl dX16_locked_19 rfl ?_
      refine ks_aload_n dX16_locked_22 rfl rfl ?_
      refine ks_getf (T := TX16) (kf := 77) kx_2445 rfl in_X16 cl_X16 (by decide) M1.1 rfl dX16_locked_23 rfl ?_
      refine ks_tv w771 ?_
      refine ks_ialdN (i := t) (show S.2.2 (P + 2) = some (kN 12 (A1 1)) from hA1 1 (by decide)) rfl (by omega) (by decide) dX16_locked_26 rfl ?_
      rw [a11]
      refine ks_iconst (x := nI 4) dX16_locked_27 (by decide) rfl ?_
      refine ks_subN (by omega) dX16_locked_28 rfl ?_
      refine ks_iconst (x := nI 4) dX16_locked_29 (by decide) rfl ?_
      refine ks_callV (n := 3) (M' := mX16_number) (c_pt_num (d := d + 2) pt1 (i := e - 4) (n := 4) (by omega) (by decide)) M1.1 cl_X16 rfl kx_2020 kx_2022 kxp_68 kx_30 kx_2023 (by decide +kernel) rfl (by decide) (Nat.le_of_ble_eq_true rfl) rfl dX16_locked_30 rfl (fun z2 S2 y2 => ?_)
      obtain ⟨rfl, hT2⟩ := y2
      obtain rfl := hT2.symm
      rw [← elk]
      refine ks_lstore_n dX16_locked_33 (by decide) rfl ?_
      refine ks_sub [(3, _), (0, _), (1, _)] rfl ?_
      refine ks_aload_n dX16_locked_34 rfl rfl ?_
      refine ks_aload_n dX16_locked_35 rfl rfl ?_
      refine ks_getf (T := TX16) (kf := 76) kx_2444 rfl in_X16 cl_X16 (by decide) M1.1 rfl dX16_locked_36 rfl ?_
      refine ks_tv w761 ?_
      refine ks_getN (T := TX13) (kf := 0) kx_1813 rfl in_X13 cl_X13 (by decide) hP1 rfl dX16_locked_39 rfl ?_
      refine ks_aload_n dX16_locked_42 rfl rfl ?_
      refine ks_aload_n dX16_locked_43 rfl rfl ?_
      refine ks_getf (T := TX16) (kf := 76) kx_2444 rfl in_X16 cl_X16 (by decide) M1.1 rfl dX16_locked_44 rfl ?_
      refine ks_tv w761 ?_
      refine ks_aload_n dX16_locked_47 rfl rfl ?_
      refine ks_getf (T := TX16) (kf := 77) kx_2445 rfl in_X16 cl_X16 (by decide) M1.1 rfl dX16_locked_48 rfl ?_
      refine ks_tv w771 ?_
      refine ks_aload_n dX16_locked_51 rfl rfl ?_
      refine ks_getf (T := TX16) (kf := 78) kx_2446 rfl in_X16 cl_X16 (by decide) M1.1 rfl dX16_locked_52 rfl ?_
      refine ks_tv w781 ?_
      refine ks_callV (n := 3) (M' := mX16_input) (c_pt_input (d := d) M1.1 pt1 (i := inp) hi9) M1.1 cl_X16 rfl kx_2122 kx_2124 kxp_78 kx_30 kx_2125 (by decide +kernel) rfl (by decide) (Nat.le_of_ble_eq_true rfl) rfl dX16_locked_55 rfl (fun z3 S3 y3 => ?_)
      obtain ⟨rfl, V3, sk3⟩ := y3
      have M3 := M1.sk hT9 sk3
      have w743 := (sk3.2.2 74 (by decide) (by decide)).trans w741
      obtain ⟨pt3, ⟨w763, w773, w783⟩, -⟩ := id M3.2.2.1
      obtain ⟨g3, A3, cc3, ⟨ey3, kg3⟩, ⟨hLN3, hN163, hPB3, ht123⟩, hg3, htx3, hP3, hA3, ⟨a03, a13⟩, -, -, -⟩ := id pt3
      refine ks_bipush (x := nI 36) dX16_locked_58 (by decide) rfl ?_
      refine ks_addN dX16_locked_60 rfl ?_
      refine ks_callV (n := 2) (M' := mX16_script) (c_pt_scrI (d := d + 1) M3.1 pt3 (i := inp) hi9) M3.1 cl_X16 rfl kx_2126 kx_2128 kxp_79 kx_30 kx_2129 (by decide +kernel) rfl (by decide) (Nat.le_of_ble_eq_true rfl) rfl dX16_locked_61 rfl (fun z4 S4 y4 => ?_)
      obtain ⟨rfl, V4, sk4, -, -⟩ := y4
      have M4 := M3.sk hT9 sk4
      have w744 := (sk4.2.2 74 (by decide) (by decide)).trans w743
      have K4 := (K1.trans (mqK.sk (F := F) sk3)).trans (mqK.sk sk4)
      obtain ⟨pt4, ⟨w764, w774, w784⟩, -⟩ := id M4.2.2.1
      obtain ⟨g4, A4, cc4, ⟨ey4, kg4⟩, ⟨hLN4, hN164, hPB4, ht124⟩, hg4, htx4, hP4, hA4, ⟨a04, a14⟩, -, -, -⟩ := id pt4
      refine ks_istore dX16_locked_64 (by decide) rfl ?_
      refine ks_sub [(5, _), (0, _), (1, _), (3, _)] rfl ?_
      refine ks_aload_n dX16_locked_66 rfl rfl ?_
      refine ks_dup dX16_locked_67 rfl rfl ?_
      refine ks_getf (T := TX16) (kf := 74) kx_2442 rfl in_X16 cl_X16 (by decide) M4.1 rfl dX16_locked_68 rfl ?_
      refine ks_tv w744 ?_
      refine ks_lload_n dX16_locked_71 rfl rfl ?_
      refine ks_lconst (x := lN 0) dX16_locked_72 (by decide) rfl ?_
      refine ks_lif_ltN (tgt := 133) (by omega) (by decide) dX16_locked_73 rfl dX16_locked_74 (by decide) rfl (fun hc73 => ?_) (fun hc73 => ?_)
      · refine ks_iconst (x := nI 1) dX16_locked_133 (by decide) rfl ?_
        refine ks_goto (tgt := 138) dX16_locked_134 (by decide) ?_
        refine ks_ior dX16_locked_138 rfl ?_
        refine ks_ti (y := ks_bo true) (by decide) ?_
        refine ks_putf (T := TX16) (kf := 74) kx_2442 rfl in_X16 tyX16_ok nmX16 cl_X16 (by decide) M4.1 (Nat.le_of_ble_eq_true rfl) rfl rfl (ks_bo_z _) rfl dX16_locked_139 rfl ?_
        refine md_put mdp_74 ?_
        refine ks_ret rfl dX16_locked_142 ?_
        have M5 := M4.put hT9 (j := 74) (v := .int (ks_bo true)) (by decide)
        have K5 := K4.put (j := 74) (v := .int (ks_bo true)) (by decide)
        exact ⟨rfl, mqR.non K5 M5 (va_up_self _ _ _) (if_neg (fun h => by
            have h9 := of_decide_eq_true h.2
            rw [← elk, show seq_ G9 L p inp = sq from esq.symm] at h9
            omega))⟩
      · refine ks_lload_n dX16_locked_77 rfl rfl ?_
        refine ks_ldc2 dX16_locked_78 kx_2339 rfl ?_
        refine ks_tl (y := lN 500000000) rfl ?_
        refine ks_lif_geN (tgt := 89) (by omega) (by decide) dX16_locked_81 rfl dX16_locked_82 (by decide) rfl (fun hc81 => ?_) (fun hc81 => ?_)
        · refine ks_iconst (x := nI 0) dX16_locked_89 (by decide) rfl ?_
          refine ks_lload_n dX16_locked_90 rfl rfl ?_
          refine ks_ldc2 dX16_locked_91 kx_2339 rfl ?_
          refine ks_tl (y := lN 500000000) rfl ?_
          refine ks_lif_geN (tgt := 102) (by omega) (by decide) dX16_locked_94 rfl dX16_locked_95 (by decide) rfl (fun hc94 => ?_) (fun hc94 => ?_)
          · refine ks_iconst (x := nI 0) dX16_locked_102 (by decide) rfl ?_
            refine ks_icmp_neN (tgt := 133) (by decide) (by decide) dX16_locked_103 (by decide) rfl (fun hc103 => ?_) (fun hc103 => ?_)
            · exact absurd hc103 (by decide)
            · refine ks_lload_n dX16_locked_106 rfl rfl ?_
              refine ks_lload_n dX16_locked_107 rfl rfl ?_
              refine ks_lif_gtN (tgt := 133) (by omega) (by omega) dX16_locked_108 rfl dX16_locked_109 (by decide) rfl (fun hc108 => ?_) (fun hc108 => ?_)
              · refine ks_iconst (x := nI 1) dX16_locked_133 (by decide) rfl ?_
                refine ks_goto (tgt := 138) dX16_locked_134 (by decide) ?_
                refine ks_ior dX16_locked_138 rfl ?_
                refine ks_ti (y := ks_bo true) (by decide) ?_
                refine ks_putf (T := TX16) (kf := 74) kx_2442 rfl in_X16 tyX16_ok nmX16 cl_X16 (by decide) M4.1 (Nat.le_of_ble_eq_true rfl) rfl rfl (ks_bo_z _) rfl dX16_locked_139 rfl ?_
                refine md_put mdp_74 ?_
                refine ks_ret rfl dX16_locked_142 ?_
                have M5 := M4.put hT9 (j := 74) (v := .int (ks_bo true)) (by decide)
                have K5 := K4.put (j := 74) (v := .int (ks_bo true)) (by decide)
                exact ⟨rfl, mqR.non K5 M5 (va_up_self _ _ _) (if_neg (fun h => by
                    have h9 := of_decide_eq_true h.2
                    rw [← elk, show seq_ G9 L p inp = sq from esq.symm] at h9
                    omega))⟩
              · refine ks_aload_n dX16_locked_112 rfl rfl ?_
                refine ks_aload_n dX16_locked_113 rfl rfl ?_
                refine ks_getf (T := TX16) (kf := 76) kx_2444 rfl in_X16 cl_X16 (by decide) M4.1 rfl dX16_locked_114 rfl ?_
                refine ks_tv w764 ?_
                refine ks_getN (T := TX13) (kf := 0) kx_1813 rfl in_X13 cl_X13 (by decide) hP4 rfl dX16_locked_117 rfl ?_
                refine ks_iload dX16_locked_120 rfl rfl ?_
                refine ks_iconst (x := nI 4) dX16_locked_122 (by decide) rfl ?_
                refine ks_callV (n := 3) (M' := mX16_number) (c_pt_num (d := d + 2) pt4 (i := iS G9 L p inp + iZ G9 L p inp) (n := 4) (by omega) (by decide)) M4.1 cl_X16 rfl kx_2020 kx_2022 kxp_68 kx_30 kx_2023 (by decide +kernel) rfl (by decide) (Nat.le_of_ble_eq_true rfl) rfl dX16_locked_123 rfl (fun z5 S5 y5 => ?_)
                obtain ⟨rfl, hT5⟩ := y5
                obtain rfl := hT5.symm
                rw [← esq]
                refine ks_ldc2 dX16_locked_126 kx_1953 rfl ?_
                refine ks_tl (y := lN 4294967295) rfl ?_
                refine ks_lif_neN (tgt := 137) (by omega) (by decide) dX16_locked_129 rfl dX16_locked_130 (by decide) rfl (fun hc129 => ?_) (fun hc129 => ?_)
                · refine ks_iconst (x := nI 0) dX16_locked_137 (by decide) rfl ?_
                  refine ks_ior dX16_locked_138 rfl ?_
                  refine ks_ti (y := ks_bo false) (by decide) ?_
                  refine ks_putf (T := TX16) (kf := 74) kx_2442 rfl in_X16 tyX16_ok nmX16 cl_X16 (by decide) M4.1 (Nat.le_of_ble_eq_true rfl) rfl rfl (ks_bo_z _) rfl dX16_locked_139 rfl ?_
                  refine md_put mdp_74 ?_
                  refine ks_ret rfl dX16_locked_142 ?_
                  have M5 := M4.put hT9 (j := 74) (v := .int (ks_bo false)) (by decide)
                  have K5 := K4.put (j := 74) (v := .int (ks_bo false)) (by decide)
                  exact ⟨rfl, _, F, xs, ys, K5, M5, .inl ⟨va_up_self _ _ _, if_pos ⟨⟨h0, c1⟩, decide_eq_true (by
                    rw [← elk, show seq_ G9 L p inp = sq from esq.symm]
                    omega)⟩⟩⟩
                · refine ks_iconst (x := nI 1) dX16_locked_133 (by decide) rfl ?_
                  refine ks_goto (tgt := 138) dX16_locked_134 (by decide) ?_
                  refine ks_ior dX16_locked_138 rfl ?_
                  refine ks_ti (y := ks_bo true) (by decide) ?_
                  refine ks_putf (T := TX16) (kf := 74) kx_2442 rfl in_X16 tyX16_ok nmX16 cl_X16 (by decide) M4.1 (Nat.le_of_ble_eq_true rfl) rfl rfl (ks_bo_z _) rfl dX16_locked_139 rfl ?_
                  refine md_put mdp_74 ?_
                  refine ks_ret rfl dX16_locked_142 ?_
                  have M5 := M4.put hT9 (j := 74) (v := .int (ks_bo true)) (by decide)
                  have K5 := K4.put (j := 74) (v := .int (ks_bo true)) (by decide)
                  exact ⟨rfl, mqR.non K5 M5 (va_up_self _ _ _) (if_neg (fun h => by
                      have h9 := of_decide_eq_true h.2
                      rw [← elk, show seq_ G9 L p inp = sq from esq.symm] at h9
                      omega))⟩
          · refine ks_iconst (x := nI 1) dX16_locked_98 (by decide) rfl ?_
            refine ks_goto (tgt := 103) dX16_locked_99 (by decide) ?_
            refine ks_icmp_neN (tgt := 133) (by decide) (by decide) dX16_locked_103 (by decide) rfl (fun hc103 => ?_) (fun hc103 => ?_)
            · refine ks_iconst (x := nI 1) dX16_locked_133 (by decide) rfl ?_
              refine ks_goto (tgt := 138) dX16_locked_134 (by decide) ?_
              refine ks_ior dX16_locked_138 rfl ?_
              refine ks_ti (y := ks_bo true) (by decide) ?_
              refine ks_putf (T := TX16) (kf := 74) kx_2442 rfl in_X16 tyX16_ok nmX16 cl_X16 (by decide) M4.1 (Nat.le_of_ble_eq_true rfl) rfl rfl (ks_bo_z _) rfl dX16_locked_139 rfl ?_
              refine md_put mdp_74 ?_
              refine ks_ret rfl dX16_locked_142 ?_
              have M5 := M4.put hT9 (j := 74) (v := .int (ks_bo true)) (by decide)
              have K5 := K4.put (j := 74) (v := .int (ks_bo true)) (by decide)
              exact ⟨rfl, mqR.non K5 M5 (va_up_self _ _ _) (if_neg (fun h => by
                  have h9 := of_decide_eq_true h.2
                  rw [← elk, show seq_ G9 L p inp = sq from esq.symm] at h9
                  omega))⟩
            · exact absurd hc103 (by decide)
        · refine ks_iconst (x := nI 1) dX16_locked_85 (by decide) rfl ?_
          refine ks_goto (tgt := 90) dX16_locked_86 (by decide) ?_
          refine ks_lload_n dX16_locked_90 rfl rfl ?_
          refine ks_ldc2 dX16_locked_91 kx_2339 rfl ?_
          refine ks_tl (y := lN 500000000) rfl ?_
          refine ks_lif_geN (tgt := 102) (by omega) (by decide) dX16_locked_94 rfl dX16_locked_95 (by decide) rfl (fun hc94 => ?_) (fun hc94 => ?_)
          · refine ks_iconst (x := nI 0) dX16_locked_102 (by decide) rfl ?_
            refine ks_icmp_neN (tgt := 133) (by decide) (by decide) dX16_locked_103 (by decide) rfl (fun hc103 => ?_) (fun hc103 => ?_)
            · refine ks_iconst (x := nI 1) dX16_locked_133 (by decide) rfl ?_
              refine ks_goto (tgt := 138) dX16_locked_134 (by decide) ?_
              refine ks_ior dX16_locked_138 rfl ?_
              refine ks_ti (y := ks_bo true) (by decide) ?_
              refine ks_putf (T := TX16) (kf := 74) kx_2442 rfl in_X16 tyX16_ok nmX16 cl_X16 (by decide) M4.1 (Nat.le_of_ble_eq_true rfl) rfl rfl (ks_bo_z _) rfl dX16_locked_139 rfl ?_
              refine md_put mdp_74 ?_
              refine ks_ret rfl dX16_locked_142 ?_
              have M5 := M4.put hT9 (j := 74) (v := .int (ks_bo true)) (by decide)
              have K5 := K4.put (j := 74) (v := .int (ks_bo true)) (by decide)
              exact ⟨rfl, mqR.non K5 M5 (va_up_self _ _ _) (if_neg (fun h => by
                  have h9 := of_decide_eq_true h.2
                  rw [← elk, show seq_ G9 L p inp = sq from esq.symm] at h9
                  omega))⟩
            · exact absurd hc103 (by decide)
          · refine ks_iconst (x := nI 1) dX16_locked_98 (by decide) rfl ?_
            refine ks_goto (tgt := 103) dX16_locked_99 (by decide) ?_
            refine ks_icmp_neN (tgt := 133) (by decide) (by decide) dX16_locked_103 (by decide) rfl (fun hc103 => ?_) (fun hc103 => ?_)
            · exact absurd hc103 (by decide)
            · refine ks_lload_n dX16_locked_106 rfl rfl ?_
              refine ks_lload_n dX16_locked_107 rfl rfl ?_
              refine ks_lif_gtN (tgt := 133) (by omega) (by omega) dX16_locked_108 rfl dX16_locked_109 (by decide) rfl (fun hc108 => ?_) (fun hc108 => ?_)
              · refine ks_iconst (x := nI 1) dX16_locked_133 (by decide) rfl ?_
                refine ks_goto (tgt := 138) dX16_locked_134 (by decide) ?_
                refine ks_ior dX16_locked_138 rfl ?_
                refine ks_ti (y := ks_bo true) (by decide) ?_
                refine ks_putf (T := TX16) (kf := 74) kx_2442 rfl in_X16 tyX16_ok nmX16 cl_X16 (by decide) M4.1 (Nat.le_of_ble_eq_true rfl) rfl rfl (ks_bo_z _) rfl dX16_locked_139 rfl ?_
                refine md_put mdp_74 ?_
                refine ks_ret rfl dX16_locked_142 ?_
                have M5 := M4.put hT9 (j := 74) (v := .int (ks_bo true)) (by decide)
                have K5 := K4.put (j := 74) (v := .int (ks_bo true)) (by decide)
                exact ⟨rfl, mqR.non K5 M5 (va_up_self _ _ _) (if_neg (fun h => by
                    have h9 := of_decide_eq_true h.2
                    rw [← elk, show seq_ G9 L p inp = sq from esq.symm] at h9
                    omega))⟩
              · refine ks_aload_n dX16_locked_112 rfl rfl ?_
                refine ks_aload_n dX16_locked_113 rfl rfl ?_
                refine ks_getf (T := TX16) (kf := 76) kx_2444 rfl in_X16 cl_X16 (by decide) M4.1 rfl dX16_locked_114 rfl ?_
                refine ks_tv w764 ?_
                refine ks_getN (T := TX13) (kf := 0) kx_1813 rfl in_X13 cl_X13 (by decide) hP4 rfl dX16_locked_117 rfl ?_
                refine ks_iload dX16_locked_120 rfl rfl ?_
                refine ks_iconst (x := nI 4) dX16_locked_122 (by decide) rfl ?_
                refine ks_callV (n := 3) (M' := mX16_number) (c_pt_num (d := d + 2) pt4 (i := iS G9 L p inp + iZ G9 L p inp) (n := 4) (by omega) (by decide)) M4.1 cl_X16 rfl kx_2020 kx_2022 kxp_68 kx_30 kx_2023 (by decide +kernel) rfl (by decide) (Nat.le_of_ble_eq_true rfl) rfl dX16_locked_123 rfl (fun z5 S5 y5 => ?_)
                obtain ⟨rfl, hT5⟩ := y5
                obtain rfl := hT5.symm
                rw [← esq]
                refine ks_ldc2 dX16_locked_126 kx_1953 rfl ?_
                refine ks_tl (y := lN 4294967295) rfl ?_
                refine ks_lif_neN (tgt := 137) (by omega) (by decide) dX16_locked_129 rfl dX16_locked_130 (by decide) rfl (fun hc129 => ?_) (fun hc129 => ?_)
                · refine ks_iconst (x := nI 0) dX16_locked_137 (by decide) rfl ?_
                  refine ks_ior dX16_locked_138 rfl ?_
                  refine ks_ti (y := ks_bo false) (by decide) ?_
                  refine ks_putf (T := TX16) (kf := 74) kx_2442 rfl in_X16 tyX16_ok nmX16 cl_X16 (by decide) M4.1 (Nat.le_of_ble_eq_true rfl) rfl rfl (ks_bo_z _) rfl dX16_locked_139 rfl ?_
                  refine md_put mdp_74 ?_
                  refine ks_ret rfl dX16_locked_142 ?_
                  have M5 := M4.put hT9 (j := 74) (v := .int (ks_bo false)) (by decide)
                  have K5 := K4.put (j := 74) (v := .int (ks_bo false)) (by decide)
                  exact ⟨rfl, _, F, xs, ys, K5, M5, .inl ⟨va_up_self _ _ _, if_pos ⟨⟨h0, c1⟩, decide_eq_true (by
                    rw [← elk, show seq_ G9 L p inp = sq from esq.symm]
                    omega)⟩⟩⟩
                · refine ks_iconst (x := nI 1) dX16_locked_133 (by decide) rfl ?_
                  refine ks_goto (tgt := 138) dX16_locked_134 (by decide) ?_
                  refine ks_ior dX16_locked_138 rfl ?_
                  refine ks_ti (y := ks_bo true) (by decide) ?_
                  refine ks_putf (T := TX16) (kf := 74) kx_2442 rfl in_X16 tyX16_ok nmX16 cl_X16 (by decide) M4.1 (Nat.le_of_ble_eq_true rfl) rfl rfl (ks_bo_z _) rfl dX16_locked_139 rfl ?_
                  refine md_put mdp_74 ?_
                  refine ks_ret rfl dX16_locked_142 ?_
                  have M5 := M4.put hT9 (j := 74) (v := .int (ks_bo true)) (by decide)
                  have K5 := K4.put (j := 74) (v := .int (ks_bo true)) (by decide)
                  exact ⟨rfl, mqR.non K5 M5 (va_up_self _ _ _) (if_neg (fun h => by
                      have h9 := of_decide_eq_true h.2
                      rw [← elk, show seq_ G9 L p inp = sq from esq.symm] at h9
                      omega))⟩
  · obtain rfl := (y1b c1).symm
    rw [if_neg c1]
    have M1 := hM.put hT9 (j := 74) (v := .int (ks_bo true)) (by decide)
    have K1 := (mqK.rf S V F).put (j := 74) (v := .int (ks_bo true)) (by decide)
    have w741 : va_up V 74 (.int (ks_bo true)) 74 = .int (ks_bo true) := va_up_self _ _ _
    refine ks_tl (y := lN 0) rfl ?_
    obtain ⟨pt1, ⟨w761, w771, w781⟩, -⟩ := id M1.2.2.1
    obtain ⟨g1, A1, cc1, ⟨ey1, kg1⟩, ⟨hLN1, hN161, hPB1, ht121⟩, hg1, htx1, hP1, hA1, ⟨a01, a11⟩, -, -, -⟩ := id pt1
    have bd := tx_bd htx1
    have zb := tx_in htx1 inp hi9
    obtain ⟨lk, elk⟩ : ∃ x, x = ks_num G9 (e - 4) 4 := ⟨_, rfl⟩
    have lkb := num4_lt hg9 (e - 4)
    obtain ⟨sq, esq⟩ : ∃ x, x = ks_num G9 (iS G9 L p inp + iZ G9 L p inp) 4 := ⟨_, rfl⟩
    have sqb := num4_lt hg9 (iS G9 L p inp + iZ G9 L p inp)
    rw [← elk] at lkb
    rw [← esq] at sqb
    refine ks_lstore_n dX16_locked_6 (by decide) rfl ?_
    refine ks_sub [(1, _), (0, _)] rfl ?_
    refine ks_aload_n dX16_locked_7 rfl rfl ?_
    refine ks_aload_n dX16_locked_8 rfl rfl ?_
    refine ks_getf (T := TX16) (kf := 76) kx_2444 rfl in_X16 cl_X16 (by decide) M1.1 rfl dX16_locked_9 rfl ?_
    refine ks_tv w761 ?_
    refine ks_getN (T := TX13) (kf := 0) kx_1813 rfl in_X13 cl_X13 (by decide) hP1 rfl dX16_locked_12 rfl ?_
    refine ks_aload_n dX16_locked_15 rfl rfl ?_
    refine ks_getf (T := TX16) (kf := 76) kx_2444 rfl in_X16 cl_X16 (by decide) M1.1 rfl dX16_locked_16 rfl ?_
    refine ks_tv w761 ?_
    refine ks_getN (T := TX13) (kf := 3) kx_1818 rfl in_X13 cl_X13 (by decide) hP1 rfl dX16_locked_19 rfl ?_
    refine ks_aload_n dX16_locked_22 rfl rfl ?_
    refine ks_getf (T := TX16) (kf := 77) kx_2445 rfl in_X16 cl_X16 (by decide) M1.1 rfl dX16_locked_23 rfl ?_
    refine ks_tv w771 ?_
    refine ks_ialdN (i := t) (show (ks_set S 290 (rfE (va_up V 74 (.int (ks_bo true))))).2.2 (P + 2) = some (kN 12 (A1 1)) from hA1 1 (by decide)) rfl (by omega) (by decide) dX16_locked_26 rfl ?_
    rw [a11]
    refine ks_iconst (x := nI 4) dX16_locked_27 (by decide) rfl ?_
    refine ks_subN (by omega) dX16_locked_28 rfl ?_
    refine ks_iconst (x := nI 4) dX16_locked_29 (by decide) rfl ?_
    refine ks_callV (n := 3) (M' := mX16_number) (c_pt_num (d := d + 2) pt1 (i := e - 4) (n := 4) (by omega) (by decide)) M1.1 cl_X16 rfl kx_2020 kx_2022 kxp_68 kx_30 kx_2023 (by decide +kernel) rfl (by decide) (Nat.le_of_ble_eq_true rfl) rfl dX16_locked_30 rfl (fun z2 S2 y2 => ?_)
    obtain ⟨rfl, hT2⟩ := y2
    obtain rfl := hT2.symm
    rw [← elk]
    refine ks_lstore_n dX16_locked_33 (by decide) rfl ?_
    refine ks_sub [(3, _), (0, _), (1, _)] rfl ?_
    refine ks_aload_n dX16_locked_34 rfl rfl ?_
    refine ks_aload_n dX16_locked_35 rfl rfl ?_
    refine ks_getf (T := TX16) (kf := 76) kx_2444 rfl in_X16 cl_X16 (by decide) M1.1 rfl dX16_locked_36 rfl ?_
    refine ks_tv w761 ?_
    refine ks_getN (T := TX13) (kf := 0) kx_1813 rfl in_X13 cl_X13 (by decide) hP1 rfl dX16_locked_39 rfl ?_
    refine ks_aload_n dX16_locked_42 rfl rfl ?_
    refine ks_aload_n dX16_locked_43 rfl rfl ?_
    refine ks_getf (T := TX16) (kf := 76) kx_2444 rfl in_X16 cl_X16 (by decide) M1.1 rfl dX16_locked_44 rfl ?_
    refine ks_tv w761 ?_
    refine ks_aload_n dX16_locked_47 rfl rfl ?_
    refine ks_getf (T := TX16) (kf := 77) kx_2445 rfl in_X16 cl_X16 (by decide) M1.1 rfl dX16_locked_48 rfl ?_
    refine ks_tv w771 ?_
    refine ks_aload_n dX16_locked_51 rfl rfl ?_
    refine ks_getf (T := TX16) (kf := 78) kx_2446 rfl in_X16 cl_X16 (by decide) M1.1 rfl dX16_locked_52 rfl ?_
    refine ks_tv w781 ?_
    refine ks_callV (n := 3) (M' := mX16_input) (c_pt_input (d := d) M1.1 pt1 (i := inp) hi9) M1.1 cl_X16 rfl kx_2122 kx_2124 kxp_78 kx_30 kx_2125 (by decide +kernel) rfl (by decide) (Nat.le_of_ble_eq_true rfl) rfl dX16_locked_55 rfl (fun z3 S3 y3 => ?_)
    obtain ⟨rfl, V3, sk3⟩ := y3
    have M3 := M1.sk hT9 sk3
    have w743 := (sk3.2.2 74 (by decide) (by decide)).trans w741
    obtain ⟨pt3, ⟨w763, w773, w783⟩, -⟩ := id M3.2.2.1
    obtain ⟨g3, A3, cc3, ⟨ey3, kg3⟩, ⟨hLN3, hN163, hPB3, ht123⟩, hg3, htx3, hP3, hA3, ⟨a03, a13⟩, -, -, -⟩ := id pt3
    refine ks_bipush (x := nI 36) dX16_locked_58 (by decide) rfl ?_
    refine ks_addN dX16_locked_60 rfl ?_
    refine ks_callV (n := 2) (M' := mX16_script) (c_pt_scrI (d := d + 1) M3.1 pt3 (i := inp) hi9) M3.1 cl_X16 rfl kx_2126 kx_2128 kxp_79 kx_30 kx_2129 (by decide +kernel) rfl (by decide) (Nat.le_of_ble_eq_true rfl) rfl dX16_locked_61 rfl (fun z4 S4 y4 => ?_)
    obtain ⟨rfl, V4, sk4, -, -⟩ := y4
    have M4 := M3.sk hT9 sk4
    have w744 := (sk4.2.2 74 (by decide) (by decide)).trans w743
    have K4 := (K1.trans (mqK.sk (F := F) sk3)).trans (mqK.sk sk4)
    obtain ⟨pt4, ⟨w764, w774, w784⟩, -⟩ := id M4.2.2.1
    obtain ⟨g4, A4, cc4, ⟨ey4, kg4⟩, ⟨hLN4, hN164, hPB4, ht124⟩, hg4, htx4, hP4, hA4, ⟨a04, a14⟩, -, -, -⟩ := id pt4
    refine ks_istore dX16_locked_64 (by decide) rfl ?_
    refine ks_sub [(5, _), (0, _), (1, _), (3, _)] rfl ?_
    refine ks_aload_n dX16_locked_66 rfl rfl ?_
    refine ks_dup dX16_locked_67 rfl rfl ?_
    refine ks_getf (T := TX16) (kf := 74) kx_2442 rfl in_X16 cl_X16 (by decide) M4.1 rfl dX16_locked_68 rfl ?_
    refine ks_tv w744 ?_
    refine ks_lload_n dX16_locked_71 rfl rfl ?_
    refine ks_lconst (x := lN 0) dX16_locked_72 (by decide) rfl ?_
    refine ks_lif_ltN (tgt := 133) (by decide) (by decide) dX16_locked_73 rfl dX16_locked_74 (by decide) rfl (fun hc73 => ?_) (fun hc73 => ?_)
    · refine ks_iconst (x := nI 1) dX16_locked_133 (by decide) rfl ?_
      refine ks_goto (tgt := 138) dX16_locked_134 (by decide) ?_
      refine ks_ior dX16_locked_138 rfl ?_
      refine ks_ti (y := ks_bo true) (by decide) ?_
      refine ks_putf (T := TX16) (kf := 74) kx_2442 rfl in_X16 tyX16_ok nmX16 cl_X16 (by decide) M4.1 (Nat.le_of_ble_eq_true rfl) rfl rfl (ks_bo_z _) rfl dX16_locked_139 rfl ?_
      refine md_put mdp_74 ?_
      refine ks_ret rfl dX16_locked_142 ?_
      have M5 := M4.put hT9 (j := 74) (v := .int (ks_bo true)) (by decide)
      have K5 := K4.put (j := 74) (v := .int (ks_bo true)) (by decide)
      exact ⟨rfl, mqR.non K5 M5 (va_up_self _ _ _) (if_neg (fun h => c1 h.1.2))⟩
    · refine ks_lload_n dX16_locked_77 rfl rfl ?_
      refine ks_ldc2 dX16_locked_78 kx_2339 rfl ?_
      refine ks_tl (y := lN 500000000) rfl ?_
      refine ks_lif_geN (tgt := 89) (by decide) (by decide) dX16_locked_81 rfl dX16_locked_82 (by decide) rfl (fun hc81 => ?_) (fun hc81 => ?_)
      · refine ks_iconst (x := nI 0) dX16_locked_89 (by decide) rfl ?_
        refine ks_lload_n dX16_locked_90 rfl rfl ?_
        refine ks_ldc2 dX16_locked_91 kx_2339 rfl ?_
        refine ks_tl (y := lN 500000000) rfl ?_
        refine ks_lif_geN (tgt := 102) (by omega) (by decide) dX16_locked_94 rfl dX16_locked_95 (by decide) rfl (fun hc94 => ?_) (fun hc94 => ?_)
        · refine ks_iconst (x := nI 0) dX16_locked_102 (by decide) rfl ?_
          refine ks_icmp_neN (tgt := 133) (by decide) (by decide) dX16_locked_103 (by decide) rfl (fun hc103 => ?_) (fun hc103 => ?_)
          · exact absurd hc103 (by decide)
          · refine ks_lload_n dX16_locked_106 rfl rfl ?_
            refine ks_lload_n dX16_locked_107 rfl rfl ?_
            refine ks_lif_gtN (tgt := 133) (by decide) (by omega) dX16_locked_108 rfl dX16_locked_109 (by decide) rfl (fun hc108 => ?_) (fun hc108 => ?_)
            · refine ks_iconst (x := nI 1) dX16_locked_133 (by decide) rfl ?_
              refine ks_goto (tgt := 138) dX16_locked_134 (by decide) ?_
              refine ks_ior dX16_locked_138 rfl ?_
              refine ks_ti (y := ks_bo true) (by decide) ?_
              refine ks_putf (T := TX16) (kf := 74) kx_2442 rfl in_X16 tyX16_ok nmX16 cl_X16 (by decide) M4.1 (Nat.le_of_ble_eq_true rfl) rfl rfl (ks_bo_z _) rfl dX16_locked_139 rfl ?_
              refine md_put mdp_74 ?_
              refine ks_ret rfl dX16_locked_142 ?_
              have M5 := M4.put hT9 (j := 74) (v := .int (ks_bo true)) (by decide)
              have K5 := K4.put (j := 74) (v := .int (ks_bo true)) (by decide)
              exact ⟨rfl, mqR.non K5 M5 (va_up_self _ _ _) (if_neg (fun h => c1 h.1.2))⟩
            · refine ks_aload_n dX16_locked_112 rfl rfl ?_
              refine ks_aload_n dX16_locked_113 rfl rfl ?_
              refine ks_getf (T := TX16) (kf := 76) kx_2444 rfl in_X16 cl_X16 (by decide) M4.1 rfl dX16_locked_114 rfl ?_
              refine ks_tv w764 ?_
              refine ks_getN (T := TX13) (kf := 0) kx_1813 rfl in_X13 cl_X13 (by decide) hP4 rfl dX16_locked_117 rfl ?_
              refine ks_iload dX16_locked_120 rfl rfl ?_
              refine ks_iconst (x := nI 4) dX16_locked_122 (by decide) rfl ?_
              refine ks_callV (n := 3) (M' := mX16_number) (c_pt_num (d := d + 2) pt4 (i := iS G9 L p inp + iZ G9 L p inp) (n := 4) (by omega) (by decide)) M4.1 cl_X16 rfl kx_2020 kx_2022 kxp_68 kx_30 kx_2023 (by decide +kernel) rfl (by decide) (Nat.le_of_ble_eq_true rfl) rfl dX16_locked_123 rfl (fun z5 S5 y5 => ?_)
              obtain ⟨rfl, hT5⟩ := y5
              obtain rfl := hT5.symm
              rw [← esq]
              refine ks_ldc2 dX16_locked_126 kx_1953 rfl ?_
              refine ks_tl (y := lN 4294967295) rfl ?_
              refine ks_lif_neN (tgt := 137) (by omega) (by decide) dX16_locked_129 rfl dX16_locked_130 (by decide) rfl (fun hc129 => ?_) (fun hc129 => ?_)
              · refine ks_iconst (x := nI 0) dX16_locked_137 (by decide) rfl ?_
                refine ks_ior dX16_locked_138 rfl ?_
                refine ks_ti (y := ks_bo true) (by decide) ?_
                refine ks_putf (T := TX16) (kf := 74) kx_2442 rfl in_X16 tyX16_ok nmX16 cl_X16 (by decide) M4.1 (Nat.le_of_ble_eq_true rfl) rfl rfl (ks_bo_z _) rfl dX16_locked_139 rfl ?_
                refine md_put mdp_74 ?_
                refine ks_ret rfl dX16_locked_142 ?_
                have M5 := M4.put hT9 (j := 74) (v := .int (ks_bo true)) (by decide)
                have K5 := K4.put (j := 74) (v := .int (ks_bo true)) (by decide)
                exact ⟨rfl, mqR.non K5 M5 (va_up_self _ _ _) (if_neg (fun h => c1 h.1.2))⟩
              · refine ks_iconst (x := nI 1) dX16_locked_133 (by decide) rfl ?_
                refine ks_goto (tgt := 138) dX16_locked_134 (by decide) ?_
                refine ks_ior dX16_locked_138 rfl ?_
                refine ks_ti (y := ks_bo true) (by decide) ?_
                refine ks_putf (T := TX16) (kf := 74) kx_2442 rfl in_X16 tyX16_ok nmX16 cl_X16 (by decide) M4.1 (Nat.le_of_ble_eq_true rfl) rfl rfl (ks_bo_z _) rfl dX16_locked_139 rfl ?_
                refine md_put mdp_74 ?_
                refine ks_ret rfl dX16_locked_142 ?_
                have M5 := M4.put hT9 (j := 74) (v := .int (ks_bo true)) (by decide)
                have K5 := K4.put (j := 74) (v := .int (ks_bo true)) (by decide)
                exact ⟨rfl, mqR.non K5 M5 (va_up_self _ _ _) (if_neg (fun h => c1 h.1.2))⟩
        · refine ks_iconst (x := nI 1) dX16_locked_98 (by decide) rfl ?_
          refine ks_goto (tgt := 103) dX16_locked_99 (by decide) ?_
          refine ks_icmp_neN (tgt := 133) (by decide) (by decide) dX16_locked_103 (by decide) rfl (fun hc103 => ?_) (fun hc103 => ?_)
          · refine ks_iconst (x := nI 1) dX16_locked_133 (by decide) rfl ?_
            refine ks_goto (tgt := 138) dX16_locked_134 (by decide) ?_
            refine ks_ior dX16_locked_138 rfl ?_
            refine ks_ti (y := ks_bo true) (by decide) ?_
            refine ks_putf (T := TX16) (kf := 74) kx_2442 rfl in_X16 tyX16_ok nmX16 cl_X16 (by decide) M4.1 (Nat.le_of_ble_eq_true rfl) rfl rfl (ks_bo_z _) rfl dX16_locked_139 rfl ?_
            refine md_put mdp_74 ?_
            refine ks_ret rfl dX16_locked_142 ?_
            have M5 := M4.put hT9 (j := 74) (v := .int (ks_bo true)) (by decide)
            have K5 := K4.put (j := 74) (v := .int (ks_bo true)) (by decide)
            exact ⟨rfl, mqR.non K5 M5 (va_up_self _ _ _) (if_neg (fun h => c1 h.1.2))⟩
          · exact absurd hc103 (by decide)
      · refine ks_iconst (x := nI 1) dX16_locked_85 (by decide) rfl ?_
        refine ks_goto (tgt := 90) dX16_locked_86 (by decide) ?_
        refine ks_lload_n dX16_locked_90 rfl rfl ?_
        refine ks_ldc2 dX16_locked_91 kx_2339 rfl ?_
        refine ks_tl (y := lN 500000000) rfl ?_
        refine ks_lif_geN (tgt := 102) (by omega) (by decide) dX16_locked_94 rfl dX16_locked_95 (by decide) rfl (fun hc94 => ?_) (fun hc94 => ?_)
        · refine ks_iconst (x := nI 0) dX16_locked_102 (by decide) rfl ?_
          refine ks_icmp_neN (tgt := 133) (by decide) (by decide) dX16_locked_103 (by decide) rfl (fun hc103 => ?_) (fun hc103 => ?_)
          · refine ks_iconst (x := nI 1) dX16_locked_133 (by decide) rfl ?_
            refine ks_goto (tgt := 138) dX16_locked_134 (by decide) ?_
            refine ks_ior dX16_locked_138 rfl ?_
            refine ks_ti (y := ks_bo true) (by decide) ?_
            refine ks_putf (T := TX16) (kf := 74) kx_2442 rfl in_X16 tyX16_ok nmX16 cl_X16 (by decide) M4.1 (Nat.le_of_ble_eq_true rfl) rfl rfl (ks_bo_z _) rfl dX16_locked_139 rfl ?_
            refine md_put mdp_74 ?_
            refine ks_ret rfl dX16_locked_142 ?_
            have M5 := M4.put hT9 (j := 74) (v := .int (ks_bo true)) (by decide)
            have K5 := K4.put (j := 74) (v := .int (ks_bo true)) (by decide)
            exact ⟨rfl, mqR.non K5 M5 (va_up_self _ _ _) (if_neg (fun h => c1 h.1.2))⟩
          · exact absurd hc103 (by decide)
        · refine ks_iconst (x := nI 1) dX16_locked_98 (by decide) rfl ?_
          refine ks_goto (tgt := 103) dX16_locked_99 (by decide) ?_
          refine ks_icmp_neN (tgt := 133) (by decide) (by decide) dX16_locked_103 (by decide) rfl (fun hc103 => ?_) (fun hc103 => ?_)
          · exact absurd hc103 (by decide)
          · refine ks_lload_n dX16_locked_106 rfl rfl ?_
            refine ks_lload_n dX16_locked_107 rfl rfl ?_
            refine ks_lif_gtN (tgt := 133) (by decide) (by omega) dX16_locked_108 rfl dX16_locked_109 (by decide) rfl (fun hc108 => ?_) (fun hc108 => ?_)
            · refine ks_iconst (x := nI 1) dX16_locked_133 (by decide) rfl ?_
              refine ks_goto (tgt := 138) dX16_locked_134 (by decide) ?_
              refine ks_ior dX16_locked_138 rfl ?_
              refine ks_ti (y := ks_bo true) (by decide) ?_
              refine ks_putf (T := TX16) (kf := 74) kx_2442 rfl in_X16 tyX16_ok nmX16 cl_X16 (by decide) M4.1 (Nat.le_of_ble_eq_true rfl) rfl rfl (ks_bo_z _) rfl dX16_locked_139 rfl ?_
              refine md_put mdp_74 ?_
              refine ks_ret rfl dX16_locked_142 ?_
              have M5 := M4.put hT9 (j := 74) (v := .int (ks_bo true)) (by decide)
              have K5 := K4.put (j := 74) (v := .int (ks_bo true)) (by decide)
              exact ⟨rfl, mqR.non K5 M5 (va_up_self _ _ _) (if_neg (fun h => c1 h.1.2))⟩
            · refine ks_aload_n dX16_locked_112 rfl rfl ?_
              refine ks_aload_n dX16_locked_113 rfl rfl ?_
              refine ks_getf (T := TX16) (kf := 76) kx_2444 rfl in_X16 cl_X16 (by decide) M4.1 rfl dX16_locked_114 rfl ?_
              refine ks_tv w764 ?_
              refine ks_getN (T := TX13) (kf := 0) kx_1813 rfl in_X13 cl_X13 (by decide) hP4 rfl dX16_locked_117 rfl ?_
              refine ks_iload dX16_locked_120 rfl rfl ?_
              refine ks_iconst (x := nI 4) dX16_locked_122 (by decide) rfl ?_
              refine ks_callV (n := 3) (M' := mX16_number) (c_pt_num (d := d + 2) pt4 (i := iS G9 L p inp + iZ G9 L p inp) (n := 4) (by omega) (by decide)) M4.1 cl_X16 rfl kx_2020 kx_2022 kxp_68 kx_30 kx_2023 (by decide +kernel) rfl (by decide) (Nat.le_of_ble_eq_true rfl) rfl dX16_locked_123 rfl (fun z5 S5 y5 => ?_)
              obtain ⟨rfl, hT5⟩ := y5
              obtain rfl := hT5.symm
              rw [← esq]
              refine ks_ldc2 dX16_locked_126 kx_1953 rfl ?_
              refine ks_tl (y := lN 4294967295) rfl ?_
              refine ks_lif_neN (tgt := 137) (by omega) (by decide) dX16_locked_129 rfl dX16_locked_130 (by decide) rfl (fun hc129 => ?_) (fun hc129 => ?_)
              · refine ks_iconst (x := nI 0) dX16_locked_137 (by decide) rfl ?_
                refine ks_ior dX16_locked_138 rfl ?_
                refine ks_ti (y := ks_bo true) (by decide) ?_
                refine ks_putf (T := TX16) (kf := 74) kx_2442 rfl in_X16 tyX16_ok nmX16 cl_X16 (by decide) M4.1 (Nat.le_of_ble_eq_true rfl) rfl rfl (ks_bo_z _) rfl dX16_locked_139 rfl ?_
                refine md_put mdp_74 ?_
                refine ks_ret rfl dX16_locked_142 ?_
                have M5 := M4.put hT9 (j := 74) (v := .int (ks_bo true)) (by decide)
                have K5 := K4.put (j := 74) (v := .int (ks_bo true)) (by decide)
                exact ⟨rfl, mqR.non K5 M5 (va_up_self _ _ _) (if_neg (fun h => c1 h.1.2))⟩
              · refine ks_iconst (x := nI 1) dX16_locked_133 (by decide) rfl ?_
                refine ks_goto (tgt := 138) dX16_locked_134 (by decide) ?_
                refine ks_ior dX16_locked_138 rfl ?_
                refine ks_ti (y := ks_bo true) (by decide) ?_
                refine ks_putf (T := TX16) (kf := 74) kx_2442 rfl in_X16 tyX16_ok nmX16 cl_X16 (by decide) M4.1 (Nat.le_of_ble_eq_true rfl) rfl rfl (ks_bo_z _) rfl dX16_locked_139 rfl ?_
                refine md_put mdp_74 ?_
                refine ks_ret rfl dX16_locked_142 ?_
                have M5 := M4.put hT9 (j := 74) (v := .int (ks_bo true)) (by decide)
                have K5 := K4.put (j := 74) (v := .int (ks_bo true)) (by decide)
                exact ⟨rfl, mqR.non K5 M5 (va_up_self _ _ _) (if_neg (fun h => c1 h.1.2))⟩
