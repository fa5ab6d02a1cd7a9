/-! THE REFERENCE: unlocks, the whole -/
set_option maxRecDepth 100000 in
set_option maxHeartbeats 1600000 in
theorem c_rs_unlocks {l : Launch} {G : ks_G} {d : Nat} {S : ks_S} {V : Nat → Value} {F n : Nat} {B : Nat → Bk} {Gp : Pt} {P y t i q : Nat} {M R : List Nat} {f : Nat → Nat} (hO : S.2.2 290 = some (rfE V)) (hB9 : mqB S V F Gp) (hR : rbS S n B) (pdP : pdK S P y 1600 M) (hyP : 564 < y ∧ 564 < P) (ht : t < mg M 80) (hi : i < (txP M t).1) (h343 : S.2.2 343 = some (kN 2300 f)) (v52 : V 52 = .int (nI R.length)) (hRl : R.length ≤ 2300) (hf : ∀ j, j < R.length → f j = R.getD j 0) (hm : ∀ x ∈ R, rmK n B x) (hq : fiR B M t R i = q + 1) : ks_P l G yX16_unlocks mX16_unlocks (d + 12) [.ref 290, .ref P, .int (nI t), .int (nI i)] S (fun z S' => z = some (.int (ks_bo (ukR Gp B M t i (R.getD q 0)))) ∧ ∃ V' F', ulK S S' V V' F F' ∧ mqB S' V' F' Gp) := by
  have kM := pdP.kO
  obtain ⟨g0, A0, gi0, ⟨ey0, kg0⟩, ⟨hMN, hN16, hPB, hP6, hy6⟩, hg0, hbl, X0, hA0⟩ := id pdP
  have tx6 := bk_tx5 hbl ht
  obtain ⟨k, p, m, u, e, etx⟩ : ∃ k p m u e, txP M t = (k, p, m, u, e) := ⟨_, _, _, _, _, rfl⟩
  have tx7 : tx_ (mg M) (bsP M t) M.length = some (k, p, m, u, e) := by rw [tx6, etx]
  have hi' : i < k := by rw [etx] at hi; exact hi
  have bd := tx_bd tx7
  have zb := tx_in tx7 i hi'
  have eiA : inA M t i = iA (mg M) M.length p i := by unfold inA; rw [etx]
  obtain ⟨ia, eia⟩ : ∃ z, z = inA M t i := ⟨_, rfl⟩
  have zi : ia + 37 ≤ iS (mg M) M.length p i := by rw [eia, eiA]; omega
  obtain ⟨ka, eka⟩ : ∃ z, z = iS (mg M) M.length p i := ⟨_, rfl⟩
  obtain ⟨kl, ekl⟩ : ∃ z, z = iZ (mg M) M.length p i := ⟨_, rfl⟩
  obtain ⟨ix, eix⟩ : ∃ z, z = ks_num (mg M) (ia + 32) 4 := ⟨_, rfl⟩
  have ixb := num4_lt kM (ia + 32)
  rw [← eix] at ixb
  rw [← eka, ← ekl] at zb
  rw [← eka] at zi
  have hqn : q < R.length := by
    unfold fiR plR at hq
    have := plD_ok hq
    omega
  have hx9 := hm (R.getD q 0) (getD_mem hqn)
  obtain ⟨x, ex⟩ : ∃ x, x = R.getD q 0 := ⟨_, rfl⟩
  rw [← ex] at hx9 ⊢
  have efx := hf q hqn
  rw [← ex] at efx
  have hxb := hx9.b hR.2.2
  obtain ⟨x1, x2, x3⟩ := id hx9
  have eukR : ukR Gp B M t i x = ulS (gdF Gp (mg M) M.length (bsP M t) k p m u e i) (lkB (mg M) M.length p e i) (bytL (mg M) ka kl) (lkR B x) := by
    unfold ukR gdR lkM scI
    rw [etx, eka, ekl]
  rw [eukR, ul_ref]
  have hT9 : mqT P y 1600 (mg M) k u e i := ⟨kM, hi', hyP, ⟨by decide, by decide⟩, by omega⟩
  refine ks_of (by decide) rfl rfl (Nat.le_of_ble_eq_true rfl) ?_
  show ks_X l G mX16_unlocks (d + 12) 0 [(0, .ref 290), (1, .ref P), (2, .int (nI t)), (3, .int (nI i))] [] S _
  refine ks_aload_n dX16_unlocks_0 rfl rfl ?_
  refine ks_aload_n dX16_unlocks_1 rfl rfl ?_
  refine ks_iload_n dX16_unlocks_2 rfl rfl ?_
  refine ks_iload_n dX16_unlocks_3 rfl rfl ?_
  refine ks_callV (n := 3) (M' := mX16_input) (c_pd_input (d := d + 9) hO pdP ht hi) hO cl_X16 rfl kx_2122 kx_2124 kxp_78 kx_30 kx_2125 (by decide +kernel) rfl (by decide) (Nat.le_of_ble_eq_true rfl) rfl dX16_unlocks_4 rfl (fun z1 S1 y1 => ?_)
  obtain ⟨rfl, V1, sk1⟩ := y1
  rw [← eia]
  have pd1 := sk1.pd pdP
  have o1 := sk1.2.1
  have R1 := hR.up sk1.1 (by decide)
  obtain ⟨g1, A1, gi1, ⟨ey1, kg1⟩, -, hg1, -, X1, -⟩ := id pd1
  have e343 := sk1.1.at h343 (by decide)
  have w52 := (sk1.2.2 52 (by decide) (by decide)).trans v52
  refine ks_istore dX16_unlocks_7 (by decide) rfl ?_
  refine ks_sub [(4, _), (0, _), (1, _), (2, _), (3, _)] rfl ?_
  refine ks_aload_n dX16_unlocks_9 rfl rfl ?_
  refine ks_getf (T := TX16) (kf := 51) kx_2419 rfl in_X16 cl_X16 (by decide) o1 rfl dX16_unlocks_10 rfl ?_
  refine ks_aload_n dX16_unlocks_13 rfl rfl ?_
  refine ks_aload_n dX16_unlocks_14 rfl rfl ?_
  refine ks_getN (T := TX13) (kf := 0) kx_1813 rfl in_X13 cl_X13 (by decide) X1.1 rfl dX16_unlocks_15 rfl ?_
  refine ks_iload dX16_unlocks_18 rfl rfl ?_
  refine ks_aload_n dX16_unlocks_20 rfl rfl ?_
  refine ks_aload_n dX16_unlocks_21 rfl rfl ?_
  refine ks_getN (T := TX13) (kf := 0) kx_1813 rfl in_X13 cl_X13 (by decide) X1.1 rfl dX16_unlocks_22 rfl ?_
  refine ks_iload dX16_unlocks_25 rfl rfl ?_
  refine ks_bipush (x := nI 32) dX16_unlocks_27 (by decide) rfl ?_
  refine ks_addN dX16_unlocks_29 rfl ?_
  refine ks_iconst (x := nI 4) dX16_unlocks_30 (by decide) rfl ?_
  refine ks_callV (n := 3) (M' := mX16_number) (c_pd_num (d := d + 11) pd1 (i := ia + 32) (k := 4) (by omega) (by decide)) o1 cl_X16 rfl kx_2020 kx_2022 kxp_68 kx_30 kx_2023 (by decide +kernel) rfl (by decide) (Nat.le_of_ble_eq_true rfl) rfl dX16_unlocks_31 rfl (fun z2 S2 y2 => ?_)
  obtain ⟨rfl, hT2⟩ := y2
  obtain rfl := hT2.symm
  rw [← eix]
  refine ks_aload_n dX16_unlocks_34 rfl rfl ?_
  refine ks_getf (T := TX16) (kf := 51) kx_2419 rfl in_X16 cl_X16 (by decide) o1 rfl dX16_unlocks_35 rfl ?_
  refine ks_aload_n dX16_unlocks_38 rfl rfl ?_
  refine ks_getf (T := TX16) (kf := 52) kx_2420 rfl in_X16 cl_X16 (by decide) o1 rfl dX16_unlocks_39 rfl ?_
  refine ks_tv w52 ?_
  refine ks_callV (n := 5) (M' := mX16_findCoin) (c_md_findCoin (d := d + 10) o1 R1 ey1 kg1 (a := ia) (ix := ix) (by omega) (by decide) (by omega) e343 (by decide) hf hRl hm) o1 cl_X16 rfl kx_2130 kx_2132 kxp_80 kx_30 kx_2133 (by decide +kernel) rfl (by decide) (Nat.le_of_ble_eq_true rfl) rfl dX16_unlocks_42 rfl (fun z3 S3 y3 => ?_)
  obtain ⟨rfl, hT3⟩ := y3
  obtain rfl := hT3.symm
  have epl : plR B ix (fun j => g1 (ia + j)) R = q + 1 := by
    rw [← hq]
    unfold fiR
    rw [← eia, ← eix]
    exact plR_c (fun j hj => hg1 _ (by omega))
  rw [epl, nI_pred]
  refine ks_ialdN (i := q) e343 rfl (by omega) (by decide) dX16_unlocks_45 rfl ?_
  rw [efx]
  obtain ⟨⟨bf, h341, hbf⟩, hBB, hn61⟩ := id R1
  obtain ⟨ob, pdb, ⟨ghb, ehb, khb, ahb⟩, wkb, bdb⟩ := hBB (x / 3072) (by omega)
  obtain ⟨gb, Ab, gib, ⟨eyb, kgb⟩, ⟨hMNb, hN16b, hPBb, hP6b, hy6b⟩, hgb, hblb, Xb, hAb⟩ := id pdb
  have tx8 := bk_tx5 hblb x2
  have q2 := tx_out tx8 (x % 256) x3
  have q3 := tx_bd tx8
  obtain ⟨la, ela⟩ : ∃ z, z = oS (mg (bkM (B (x / 3072)))) (bkM (B (x / 3072))).length (txP (bkM (B (x / 3072))) (x / 256 % 12)).2.2.2.1 (x % 256) := ⟨_, rfl⟩
  obtain ⟨ll, ell⟩ : ∃ z, z = oZ (mg (bkM (B (x / 3072)))) (bkM (B (x / 3072))).length (txP (bkM (B (x / 3072))) (x / 256 % 12)).2.2.2.1 (x % 256) := ⟨_, rfl⟩
  rw [← ela, ← ell] at q2
  have elk : lkR B x = bytL (mg (bkM (B (x / 3072)))) la ll := by unfold lkR; rw [← ela, ← ell]
  rw [elk]
  refine ks_istore dX16_unlocks_46 (by decide) rfl ?_
  refine ks_sub [(5, _), (0, _), (1, _), (2, _), (3, _), (4, _)] rfl ?_
  refine ks_aload_n dX16_unlocks_48 rfl rfl ?_
  refine ks_getf (T := TX16) (kf := 46) kx_2414 rfl in_X16 cl_X16 (by decide) o1 rfl dX16_unlocks_49 rfl ?_
  refine ks_iload dX16_unlocks_52 rfl rfl ?_
  refine ks_sipush (x := nI 3072) dX16_unlocks_54 (by decide) rfl ?_
  refine ks_divN (by omega) (by decide) (by decide) dX16_unlocks_57 rfl ?_
  refine ks_aaldN (i := x / 3072) (b := (bkN (B (x / 3072)))) (by decide) h341 rfl (by omega) (by decide) (hbf (x / 3072) (by omega)) dX16_unlocks_58 rfl ?_
  refine ks_getN (T := TX12) (kf := 3) kx_2063 rfl in_X12 cl_X12 (by decide) ob rfl dX16_unlocks_59 rfl ?_
  refine ks_astore dX16_unlocks_62 (by decide) rfl ?_
  refine ks_sub [(6, _), (0, _), (1, _), (2, _), (3, _), (4, _), (5, _)] rfl ?_
  refine ks_aload_n dX16_unlocks_64 rfl rfl ?_
  refine ks_aload dX16_unlocks_65 rfl rfl ?_
  refine ks_getN (T := TX13) (kf := 0) kx_1813 rfl in_X13 cl_X13 (by decide) Xb.1 rfl dX16_unlocks_67 rfl ?_
  refine ks_aload_n dX16_unlocks_70 rfl rfl ?_
  refine ks_aload dX16_unlocks_71 rfl rfl ?_
  refine ks_iload dX16_unlocks_73 rfl rfl ?_
  refine ks_sipush (x := nI 256) dX16_unlocks_75 (by decide) rfl ?_
  refine ks_divN (by omega) (by decide) (by decide) dX16_unlocks_78 rfl ?_
  refine ks_bipush (x := nI 12) dX16_unlocks_79 (by decide) rfl ?_
  refine ks_remN (by omega) (by decide) (by decide) dX16_unlocks_81 rfl ?_
  refine ks_iload dX16_unlocks_82 rfl rfl ?_
  refine ks_sipush (x := nI 255) dX16_unlocks_84 (by decide) rfl ?_
  refine ks_andN (k := 8) (by omega) (by decide) dX16_unlocks_87 rfl ?_
  refine ks_callV (n := 3) (M' := mX16_output) (c_pd_output (d := d + 9) o1 pdb (t := x / 256 % 12) (i := x % 256) x2 x3) o1 cl_X16 rfl kx_2141 kx_2143 kxp_82 kx_30 kx_2144 (by decide +kernel) rfl (by decide) (Nat.le_of_ble_eq_true rfl) rfl dX16_unlocks_88 rfl (fun z4 S4 y4 => ?_)
  obtain ⟨rfl, V4, sk4⟩ := y4
  have pdb4 := sk4.pd pdb
  have pd4 := sk4.pd pd1
  have o4 := sk4.2.1
  obtain ⟨_, _, _, _, _, _, _, X4, _⟩ := id pd4
  obtain ⟨_, _, _, _, _, _, _, Xb4, _⟩ := id pdb4
  refine ks_bipush (x := nI 8) dX16_unlocks_91 (by decide) rfl ?_
  refine ks_addN dX16_unlocks_93 rfl ?_
  refine ks_callV (n := 2) (M' := mX16_script) (c_pd_scrO (d := d + 10) o4 pdb4 (t := x / 256 % 12) (i := x % 256) x2 x3) o4 cl_X16 rfl kx_2126 kx_2128 kxp_79 kx_30 kx_2129 (by decide +kernel) rfl (by decide) (Nat.le_of_ble_eq_true rfl) rfl dX16_unlocks_94 rfl (fun z5 S5 y5 => ?_)
  obtain ⟨rfl, V5, sk5, v40, v41⟩ := y5
  rw [← ela] at v40
  rw [← ell] at v41
  have pdb5 := sk5.pd pdb4
  have pd5 := sk5.pd pd4
  have o5 := sk5.2.1
  obtain ⟨_, _, _, _, _, _, _, X5, _⟩ := id pd5
  obtain ⟨_, _, _, _, _, _, _, Xb5, _⟩ := id pdb5
  refine ks_pop dX16_unlocks_97 rfl rfl ?_
  refine ks_aload_n dX16_unlocks_98 rfl rfl ?_
  refine ks_getf (T := TX16) (kf := 40) kx_2408 rfl in_X16 cl_X16 (by decide) o5 rfl dX16_unlocks_99 rfl ?_
  refine ks_tv v40 ?_
  refine ks_istore dX16_unlocks_102 (by decide) rfl ?_
  refine ks_sub [(7, _), (0, _), (1, _), (2, _), (3, _), (4, _), (5, _), (6, _)] rfl ?_
  refine ks_aload_n dX16_unlocks_104 rfl rfl ?_
  refine ks_getf (T := TX16) (kf := 41) kx_2409 rfl in_X16 cl_X16 (by decide) o5 rfl dX16_unlocks_105 rfl ?_
  refine ks_tv v41 ?_
  refine ks_istore dX16_unlocks_108 (by decide) rfl ?_
  refine ks_sub [(8, _), (0, _), (1, _), (2, _), (3, _), (4, _), (5, _), (6, _), (7, _)] rfl ?_
  refine ks_aload_n dX16_unlocks_110 rfl rfl ?_
  refine ks_aload_n dX16_unlocks_111 rfl rfl ?_
  refine ks_getN (T := TX13) (kf := 0) kx_1813 rfl in_X13 cl_X13 (by decide) X5.1 rfl dX16_unlocks_112 rfl ?_
  refine ks_iload dX16_unlocks_115 rfl rfl ?_
  refine ks_bipush (x := nI 36) dX16_unlocks_117 (by decide) rfl ?_
  refine ks_addN dX16_unlocks_119 rfl ?_
  rw [show ia + 36 = inA M t i + 36 by rw [eia]]
  refine ks_callV (n := 2) (M' := mX16_script) (c_pd_scrI (d := d + 10) o5 pd5 ht hi) o5 cl_X16 rfl kx_2126 kx_2128 kxp_79 kx_30 kx_2129 (by decide +kernel) rfl (by decide) (Nat.le_of_ble_eq_true rfl) rfl dX16_unlocks_120 rfl (fun z6 S6 y6 => ?_)
  obtain ⟨rfl, V6, sk6, u40, u41⟩ := y6
  rw [etx, show iS (mg M) M.length (k, p, m, u, e).2.1 i = ka from eka.symm] at u40
  rw [etx, show iZ (mg M) M.length (k, p, m, u, e).2.1 i = kl from ekl.symm] at u41
  have pdb6 := sk6.pd pdb5
  have pd6 := sk6.pd pd5
  have o6 := sk6.2.1
  obtain ⟨_, _, _, _, _, _, _, X6, _⟩ := id pd6
  obtain ⟨_, _, _, _, _, _, _, Xb6, _⟩ := id pdb6
  have sk := ((sk1.trans sk4).trans sk5).trans sk6
  refine ks_pop dX16_unlocks_123 rfl rfl ?_
  refine ks_aload_n dX16_unlocks_124 rfl rfl ?_
  refine ks_getf (T := TX16) (kf := 40) kx_2408 rfl in_X16 cl_X16 (by decide) o6 rfl dX16_unlocks_125 rfl ?_
  refine ks_tv u40 ?_
  refine ks_istore dX16_unlocks_128 (by decide) rfl ?_
  refine ks_sub [(9, _), (0, _), (1, _), (2, _), (3, _), (4, _), (5, _), (6, _), (7, _), (8, _)] rfl ?_
  refine ks_aload_n dX16_unlocks_130 rfl rfl ?_
  refine ks_getf (T := TX16) (kf := 41) kx_2409 rfl in_X16 cl_X16 (by decide) o6 rfl dX16_unlocks_131 rfl ?_
  refine ks_tv u41 ?_
  refine ks_istore dX16_unlocks_134 (by decide) rfl ?_
  refine ks_sub [(10, _), (0, _), (1, _), (2, _), (3, _), (4, _), (5, _), (6, _), (7, _), (8, _), (9, _)] rfl ?_
  refine ks_aload_n dX16_unlocks_136 rfl rfl ?_
  refine ks_aload_n dX16_unlocks_137 rfl rfl ?_
  refine ks_putf (T := TX16) (kf := 76) kx_2444 rfl in_X16 tyX16_ok nmX16 cl_X16 (by decide) o6 (Nat.le_of_ble_eq_true rfl) rfl rfl rfl rfl dX16_unlocks_138 rfl ?_
  refine md_put mdp_76 ?_
  refine ks_aload_n dX16_unlocks_141 rfl rfl ?_
  refine ks_iload_n dX16_unlocks_142 rfl rfl ?_
  refine ks_putf (T := TX16) (kf := 77) kx_2445 rfl in_X16 tyX16_ok nmX16 cl_X16 (by decide) (ks_set_same _ _ _) (Nat.le_of_ble_eq_true rfl) rfl rfl rfl rfl dX16_unlocks_143 rfl ?_
  refine md_put mdp_77 ?_
  refine ks_aload_n dX16_unlocks_146 rfl rfl ?_
  refine ks_iload_n dX16_unlocks_147 rfl rfl ?_
  refine ks_putf (T := TX16) (kf := 78) kx_2446 rfl in_X16 tyX16_ok nmX16 cl_X16 (by decide) (ks_set_same _ _ _) (Nat.le_of_ble_eq_true rfl) rfl rfl rfl rfl dX16_unlocks_148 rfl ?_
  refine md_put mdp_78 ?_
  refine ks_aload_n dX16_unlocks_151 rfl rfl ?_
  refine ks_iconst (x := nI 0) dX16_unlocks_152 (by decide) rfl ?_
  refine ks_putf (T := TX16) (kf := 67) kx_2435 rfl in_X16 tyX16_ok nmX16 cl_X16 (by decide) (ks_set_same _ _ _) (Nat.le_of_ble_eq_true rfl) rfl rfl rfl rfl dX16_unlocks_153 rfl ?_
  refine md_put mdp_67 ?_
  refine ks_aload_n dX16_unlocks_156 rfl rfl ?_
  refine ks_aload_n dX16_unlocks_157 rfl rfl ?_
  refine ks_getN (T := TX13) (kf := 0) kx_1813 rfl in_X13 cl_X13 (by decide) ((ks_set_ne _ _ (by omega)).trans ((ks_set_ne _ _ (by omega)).trans ((ks_set_ne _ _ (by omega)).trans ((ks_set_ne _ _ (by omega)).trans X6.1)))) rfl dX16_unlocks_158 rfl ?_
  refine ks_iload dX16_unlocks_161 rfl rfl ?_
  refine ks_iload dX16_unlocks_163 rfl rfl ?_
  obtain ⟨S7, eS7⟩ : ∃ S7, S7 = (ks_set (ks_set (ks_set (ks_set S6 290 (rfE (va_up V6 76 (.ref P)))) 290 (rfE (va_up (va_up V6 76 (.ref P)) 77 (.int (nI t))))) 290 (rfE (va_up (va_up (va_up V6 76 (.ref P)) 77 (.int (nI t))) 78 (.int (nI i))))) 290 (rfE (va_up (va_up (va_up (va_up V6 76 (.ref P)) 77 (.int (nI t))) 78 (.int (nI i))) 67 (.int (nI 0))))) := ⟨_, rfl⟩
  obtain ⟨V7, eV7⟩ : ∃ V7, V7 = (va_up (va_up (va_up (va_up V6 76 (.ref P)) 77 (.int (nI t))) 78 (.int (nI i))) 67 (.int (nI 0))) := ⟨_, rfl⟩
  rw [← eS7]
  have u7 : ks_up S6 S7 [290] := by
    rw [eS7]
    repeat first | exact ks_up_set _ _ (by decide) | refine ks_up.trans ?_ (ks_up_set _ _ (by decide))
  have o7 : S7.2.2 290 = some (rfE V7) := by rw [eS7, eV7]; exact ks_set_same _ _ _
  have hv7 : ∀ j, j ≠ 67 → j ≠ 76 → j ≠ 77 → j ≠ 78 → V7 j = V6 j := fun j a1 a2 a3 a4 => by rw [eV7, va_up_ne _ _ a1, va_up_ne _ _ a4, va_up_ne _ _ a3, va_up_ne _ _ a2]
  have u17 : ks_up S S7 [290] := sk.1.trans u7
  have U7 : ulK S S7 V V7 F F := ulK.ob u17 (fun j hj => (hv7 j (fun h => hj (by rw [h]; decide)) (fun h => hj (by rw [h]; decide)) (fun h => hj (by rw [h]; decide)) (fun h => hj (by rw [h]; decide))).trans (sk.2.2 j (fun h => hj (by rw [h]; decide)) (fun h => hj (by rw [h]; decide))))
  have hw7 : ∀ j, j ≠ 67 ∧ j ≠ 76 ∧ j ≠ 77 ∧ j ≠ 78 ∧ j ≠ 40 ∧ j ≠ 41 → V7 j = V j := fun j h => (hv7 j h.1 h.2.1 h.2.2.1 h.2.2.2.1).trans (sk.2.2 j h.2.2.2.2.1 h.2.2.2.2.2)
  have pd7 : pdK S7 P y 1600 M := pdP.up u17 (fun x hx => by rw [List.mem_singleton] at hx; omega)
  have pdb7 : pdK S7 ((bkN (B (x / 3072))) + 3) ((bkN (B (x / 3072))) + 1) 1600 (bkM (B (x / 3072))) := pdb6.up u7 (fun x hx => by rw [List.mem_singleton] at hx; omega)
  obtain ⟨ys7, vs7, M7⟩ := hB9.S (Gp := Gp) u17 o7 (fun j hj => hw7 j (by simp only [List.mem_cons, List.not_mem_nil, or_false] at hj; omega)) (by rw [eV7]; exact va_up_self _ _ _) (pd7.pt ht etx) ⟨by rw [eV7]; exact (va_up_ne _ _ (by decide)).trans ((va_up_ne _ _ (by decide)).trans ((va_up_ne _ _ (by decide)).trans (va_up_self _ _ _))), by rw [eV7]; exact (va_up_ne _ _ (by decide)).trans ((va_up_ne _ _ (by decide)).trans (va_up_self _ _ _)), (show V7 78 = .int (nI i) by rw [eV7]; exact (va_up_ne _ _ (by decide)).trans (va_up_self _ _ _))⟩
  have cdP : ∀ S9 : ks_S, pdK S9 P y 1600 M → cdQ S9 y 1600 (ka + kl) (mg M) := fun S9 h => by
    obtain ⟨g, A, gi, ⟨e1, e2⟩, -, e3, -⟩ := h
    exact ⟨g, e2, e1, fun j hj => e3 j (by omega)⟩
  have cdB : ∀ S9 : ks_S, pdK S9 ((bkN (B (x / 3072))) + 3) ((bkN (B (x / 3072))) + 1) 1600 (bkM (B (x / 3072))) → cdQ S9 ((bkN (B (x / 3072))) + 1) 1600 (la + ll) (mg (bkM (B (x / 3072)))) := fun S9 h => by
    obtain ⟨g, A, gi, ⟨e1, e2⟩, -, e3, -⟩ := h
    exact ⟨g, e2, e1, fun j hj => e3 j (by omega)⟩
  refine ks_callV (n := 3) (M' := mX16_run) (c_rs_run (d := d) M7 hT9 ⟨⟨by omega, by decide, by decide, by omega⟩, .inl (by decide)⟩ (cdP S7 pd7) (by omega) (Nat.zero_le _)) o7 cl_X16 rfl kx_2150 kx_2152 kxp_84 kx_30 kx_2153 (by decide +kernel) rfl (by decide) (Nat.le_of_ble_eq_true rfl) rfl dX16_unlocks_165 rfl (fun z8 S8 y8 => ?_)
  obtain ⟨rfl, V8, F8, xs8, ys8, R8, M8, h8⟩ := y8
  have U8 := U7.trans R8.u
  have pd8 := pd7.sf (by decide) R8.1 (fun x hx => by have hb : x < 564 := (show ∀ x ∈ LMx, x < 564 by decide) x hx; omega)
  have pdb8 := pdb7.sf (by decide) R8.1 (fun x hx => by have hb : x < 564 := (show ∀ x ∈ LMx, x < 564 by decide) x hx; omega)
  cases hw1 : rnW (gdF Gp (mg M) M.length (bsP M t) k p m u e i) (lkB (mg M) M.length p e i) (bytL (mg M) ka kl) [] with
  | none =>
    refine ks_ti (y := ks_bo false) rfl ?_
    refine ks_if_neZ (tgt := 173) dX16_unlocks_168 (by decide) rfl (fun h9 => ?_) (fun h9 => ?_)
    · exact absurd h9 (by decide)
    · refine ks_iconst (x := nI 0) dX16_unlocks_171 (by decide) rfl ?_
      refine ks_zret rfl rfl dX16_unlocks_172 ?_
      exact ⟨rfl, V8, F8, U8, M8.B⟩
  | some s8 =>
    refine ks_ti (y := ks_bo true) rfl ?_
    obtain ⟨e8, lx8⟩ := h8 s8 hw1
    obtain rfl := e8.symm
    show ks_X _ _ _ _ _ _ _ _ (fun z S' => z = some (.int (ks_bo (match rnW (gdF Gp (mg M) M.length (bsP M t) k p m u e i) (lkB (mg M) M.length p e i) (bytL (mg (bkM (B (x / 3072)))) la ll) xs8 with | none => false | some r => if topTr r.1 = false then false else if p2sh (bytL (mg (bkM (B (x / 3072)))) la ll) = false then true else if psh_ (bytL (mg M) ka kl) = false then false else match rnW (gdF Gp (mg M) M.length (bsP M t) k p m u e i) (lkB (mg M) M.length p e i) (xs8.getD 0 []) (xs8.drop 1) with | none => false | some t => topTr t.1))) ∧ ∃ V' F', ulK S S' V V' F F' ∧ mqB S' V' F' Gp)
    obtain ⟨g8, A8, gi8, ⟨ey8, kg8⟩, -, hg8, -, X8, -⟩ := id pd8
    obtain ⟨gb8, Ab8, gib8, ⟨eyb8, kgb8⟩, -, hgb8, -, Xb8, -⟩ := id pdb8
    have run2 : ∀ (as : Bool) (S9 : ks_S) (V9 : Nat → Value) (F9 : Nat) (vs9 : Vs), p2sh (bytL (mg (bkM (B (x / 3072)))) la ll) = as → ulK S S9 V V9 F F9 → mqS S9 V9 F9 xs8 ys8 vs9 Gp P y 1600 (mg M) M.length t (bsP M t) k p m u e i → (as = true → vs9.2 = xs8) → pdK S9 P y 1600 M → pdK S9 ((bkN (B (x / 3072))) + 3) ((bkN (B (x / 3072))) + 1) 1600 (bkM (B (x / 3072))) → ks_X l G mX16_unlocks (d + 12) 240 [(0, .ref 290), (1, .ref P), (6, .ref ((bkN (B (x / 3072))) + 3)), (7, .int (nI la)), (8, .int (nI ll)), (9, .int (nI ka)), (10, .int (nI kl)), (11, .int (ks_bo as))] [] S9 (fun z S' => z = some (.int (ks_bo (match rnW (gdF Gp (mg M) M.length (bsP M t) k p m u e i) (lkB (mg M) M.length p e i) (bytL (mg (bkM (B (x / 3072)))) la ll) xs8 with | none => false | some r => if topTr r.1 = false then false else if p2sh (bytL (mg (bkM (B (x / 3072)))) la ll) = false then true else if psh_ (bytL (mg M) ka kl) = false then false else match rnW (gdF Gp (mg M) M.length (bsP M t) k p m u e i) (lkB (mg M) M.length p e i) (xs8.getD 0 []) (xs8.drop 1) with | none => false | some t => topTr t.1))) ∧ ∃ V' F', ulK S S' V V' F F' ∧ mqB S' V' F' Gp) := by
      intro as S9 V9 F9 vs9 has U9 M9 hvs pd9 pdb9
      obtain ⟨g9, A9, gi9, ⟨ey9, kg9⟩, -, hg9, -, X9, -⟩ := id pd9
      obtain ⟨_, _, _, _, _, _, _, Xb9, _⟩ := id pdb9
      refine ks_aload_n dX16_unlocks_240 rfl rfl ?_
      refine ks_aload dX16_unlocks_241 rfl rfl ?_
      refine ks_getN (T := TX13) (kf := 0) kx_1813 rfl in_X13 cl_X13 (by decide) Xb9.1 rfl dX16_unlocks_243 rfl ?_
      refine ks_iload dX16_unlocks_246 rfl rfl ?_
      refine ks_iload dX16_unlocks_248 rfl rfl ?_
      refine ks_callV (n := 3) (M' := mX16_run) (c_rs_run (d := d) M9 hT9 ⟨⟨by omega, by decide, by decide, by omega⟩, .inl (by decide)⟩ (cdB S9 pdb9) (by omega) lx8) M9.1 cl_X16 rfl kx_2150 kx_2152 kxp_84 kx_30 kx_2153 (by decide +kernel) rfl (by decide) (Nat.le_of_ble_eq_true rfl) rfl dX16_unlocks_250 rfl (fun z10 S10 y10 => ?_)
      obtain ⟨rfl, V10, F10, xs10, ys10, R10, M10, h10⟩ := y10
      have U10 := U9.trans R10.u
      have pd10 := pd9.sf (by decide) R10.1 (fun x hx => by have hb : x < 564 := (show ∀ x ∈ LMx, x < 564 by decide) x hx; omega)
      obtain ⟨g10, A10, gi10, ⟨ey10, kg10⟩, -, hg10, -, X10, -⟩ := id pd10
      obtain ⟨v67, -, -, bx10, -⟩ := M10.2.1.v67
      cases hw2 : rnW (gdF Gp (mg M) M.length (bsP M t) k p m u e i) (lkB (mg M) M.length p e i) (bytL (mg (bkM (B (x / 3072)))) la ll) xs8 with
      | none =>
        refine ks_ti (y := ks_bo false) rfl ?_
        refine ks_if_eqZ (tgt := 271) dX16_unlocks_253 (by decide) rfl (fun h11 => ?_) (fun h11 => ?_)
        · refine ks_iconst (x := nI 0) dX16_unlocks_271 (by decide) rfl ?_
          refine ks_zret rfl rfl dX16_unlocks_272 ?_
          exact ⟨rfl, V10, F10, U10, M10.B⟩
        · exact absurd h11 (by decide)
      | some s10 =>
        refine ks_ti (y := ks_bo true) rfl ?_
        obtain ⟨e10, lx10⟩ := h10 s10 hw2
        obtain rfl := e10.symm
        show ks_X _ _ _ _ _ _ _ _ (fun z S' => z = some (.int (ks_bo (if topTr xs10 = false then false else if p2sh (bytL (mg (bkM (B (x / 3072)))) la ll) = false then true else if psh_ (bytL (mg M) ka kl) = false then false else match rnW (gdF Gp (mg M) M.length (bsP M t) k p m u e i) (lkB (mg M) M.length p e i) (xs8.getD 0 []) (xs8.drop 1) with | none => false | some t => topTr t.1))) ∧ ∃ V' F', ulK S S' V V' F F' ∧ mqB S' V' F' Gp)
        refine ks_if_eqZ (tgt := 271) dX16_unlocks_253 (by decide) rfl (fun h11 => ?_) (fun h11 => ?_)
        · exact absurd h11 (by decide)
        · refine ks_aload_n dX16_unlocks_256 rfl rfl ?_
          refine ks_getf (T := TX16) (kf := 67) kx_2435 rfl in_X16 cl_X16 (by decide) M10.1 rfl dX16_unlocks_257 rfl ?_
          refine ks_tv v67 ?_
          refine ks_if_eqN (tgt := 271) (by omega) dX16_unlocks_260 (by decide) rfl (fun h12 => ?_) (fun h12 => ?_)
          · refine ks_iconst (x := nI 0) dX16_unlocks_271 (by decide) rfl ?_
            refine ks_zret rfl rfl dX16_unlocks_272 ?_
            have hx0 : xs10 = [] := List.eq_nil_of_length_eq_zero (by omega)
            subst hx0
            exact ⟨rfl, V10, F10, U10, M10.B⟩
          · refine ks_aload_n dX16_unlocks_263 rfl rfl ?_
            refine ks_iconst (x := nI 0) dX16_unlocks_264 (by decide) rfl ?_
            refine ks_callV (n := 1) (M' := mX16_isTrue) (c_rs_isTrue (d := d + 11) M10.1 M10.2.1 (k := 0) (by omega)) M10.1 cl_X16 rfl kx_2169 kx_2171 kxp_88 kx_30 kx_2172 (by decide +kernel) rfl (by decide) (Nat.le_of_ble_eq_true rfl) rfl dX16_unlocks_265 rfl (fun z13 S13 y13 => ?_)
            obtain ⟨rfl, hT13⟩ := y13
            obtain rfl := hT13.symm
            rw [topTr_at (by omega)]
            refine ks_if_neZ (tgt := 273) dX16_unlocks_268 (by decide) rfl (fun h14 => ?_) (fun h14 => ?_)
            · rw [if_neg (by rw [h14]; decide), has]
              refine ks_iload dX16_unlocks_273 rfl rfl ?_
              refine ks_if_neZ (tgt := 280) dX16_unlocks_275 (by decide) rfl (fun h15 => ?_) (fun h15 => ?_)
              · rw [if_neg (by rw [h15]; decide)]
                obtain ⟨xa, ra, ba, exa, -⟩ := p2_run (has.trans h15) hw2
                have evs := hvs h15
                refine ks_aload_n dX16_unlocks_280 rfl rfl ?_
                refine ks_aload_n dX16_unlocks_281 rfl rfl ?_
                refine ks_getN (T := TX13) (kf := 0) kx_1813 rfl in_X13 cl_X13 (by decide) X10.1 rfl dX16_unlocks_282 rfl ?_
                refine ks_iload dX16_unlocks_285 rfl rfl ?_
                refine ks_iload dX16_unlocks_287 rfl rfl ?_
                refine ks_callV (n := 3) (M' := mX16_isPushes) (c_md_isPushes (d := d + 9) M10.1 ey10 kg10 (s := ka) (n := kl) (by decide) (by omega)) M10.1 cl_X16 rfl kx_2356 kx_2358 kxp_125 kx_30 kx_2359 (by decide +kernel) rfl (by decide) (Nat.le_of_ble_eq_true rfl) rfl dX16_unlocks_289 rfl (fun z16 S16 y16 => ?_)
                obtain ⟨rfl, V16, K16⟩ := y16
                rw [show bytL g10 ka kl = bytL (mg M) ka kl from bytL_c (fun j hj => hg10 _ (by omega))]
                have M16 := M10.bh hT9 K16
                have U16 := U10.trans (K16.r (F := F10)).u
                refine ks_if_neZ (tgt := 297) dX16_unlocks_292 (by decide) rfl (fun h17 => ?_) (fun h17 => ?_)
                · rw [if_neg (by rw [h17]; decide), ← evs]
                  refine ks_sub [(0, _)] rfl ?_
                  refine (l_ul297 (d := d) M16 hT9 (by rw [evs, exa]; exact Nat.succ_pos _) (by rw [evs]; exact lx8)).mono (fun z S' h => ?_)
                  obtain ⟨e1, V', F', e2, e3⟩ := h
                  exact ⟨e1, V', F', U16.trans e2, e3⟩
                · refine ks_iconst (x := nI 0) dX16_unlocks_295 (by decide) rfl ?_
                  refine ks_zret rfl rfl dX16_unlocks_296 ?_
                  rw [if_pos h17]
                  exact ⟨rfl, V16, F10, U16, M16.B⟩
              · refine ks_iconst (x := nI 1) dX16_unlocks_278 (by decide) rfl ?_
                refine ks_zret rfl rfl dX16_unlocks_279 ?_
                rw [if_pos h15]
                exact ⟨rfl, V10, F10, U10, M10.B⟩
            · refine ks_iconst (x := nI 0) dX16_unlocks_271 (by decide) rfl ?_
              refine ks_zret rfl rfl dX16_unlocks_272 ?_
              rw [if_pos h14]
              exact ⟨rfl, V10, F10, U10, M10.B⟩
    have fin : ∀ as : Bool, p2sh (bytL (mg (bkM (B (x / 3072)))) la ll) = as → ks_X l G mX16_unlocks (d + 12) 231 [(0, .ref 290), (1, .ref P), (6, .ref ((bkN (B (x / 3072))) + 3)), (7, .int (nI la)), (8, .int (nI ll)), (9, .int (nI ka)), (10, .int (nI kl)), (11, .int (ks_bo as))] [] S8 (fun z S' => z = some (.int (ks_bo (match rnW (gdF Gp (mg M) M.length (bsP M t) k p m u e i) (lkB (mg M) M.length p e i) (bytL (mg (bkM (B (x / 3072)))) la ll) xs8 with | none => false | some r => if topTr r.1 = false then false else if p2sh (bytL (mg (bkM (B (x / 3072)))) la ll) = false then true else if psh_ (bytL (mg M) ka kl) = false then false else match rnW (gdF Gp (mg M) M.length (bsP M t) k p m u e i) (lkB (mg M) M.length p e i) (xs8.getD 0 []) (xs8.drop 1) with | none => false | some t => topTr t.1))) ∧ ∃ V' F', ulK S S' V V' F F' ∧ mqB S' V' F' Gp) := by
      intro as has
      refine ks_iload dX16_unlocks_231 rfl rfl ?_
      refine ks_if_eqZ (tgt := 240) dX16_unlocks_233 (by decide) rfl (fun h9 => ?_) (fun h9 => ?_)
      · exact ks_sub [(0, _), (1, _), (6, _), (7, _), (8, _), (9, _), (10, _), (11, _)] rfl (run2 as S8 V8 F8 vs7 has U8 M8 (fun h => by rw [h9] at h; cases h) pd8 pdb8)
      · refine ks_aload_n dX16_unlocks_236 rfl rfl ?_
        refine ks_callV (n := 0) (M' := mX16_keepStack) (c_rs_keepStack (d := d + 10) M8 hT9) M8.1 cl_X16 rfl kx_2352 kx_2354 kxp_124 kx_30 kx_2355 (by decide +kernel) rfl (by decide) (Nat.le_of_ble_eq_true rfl) rfl dX16_unlocks_237 rfl (fun z9 S9 y9 => ?_)
        obtain ⟨rfl, V9, F9, vs9, sf9, hv9, M9, evs⟩ := y9
        have U9 : ulK S8 S9 V8 V9 F8 F9 := ⟨sf9.mono (by decide), fun j hj => hv9 j (fun h => hj (by rw [h]; decide))⟩
        have pd9 := pd8.sf (by decide) sf9 (fun x hx => by have hb : x < 564 := (show ∀ x ∈ ([290, 365, 366] : List Nat), x < 564 by decide) x hx; omega)
        have pdb9 := pdb8.sf (by decide) sf9 (fun x hx => by have hb : x < 564 := (show ∀ x ∈ ([290, 365, 366] : List Nat), x < 564 by decide) x hx; omega)
        exact ks_sub [(0, _), (1, _), (6, _), (7, _), (8, _), (9, _), (10, _), (11, _)] rfl (run2 as S9 V9 F9 vs9 has (U8.trans U9) M9 (fun _ => evs) pd9 pdb9)
    refine ks_if_neZ (tgt := 173) dX16_unlocks_168 (by decide) rfl (fun h9 => ?_) (fun h9 => ?_)
    · refine ks_sub [(0, _), (1, _), (6, _), (7, _), (8, _), (9, _), (10, _)] rfl ?_
      refine ks_iload dX16_unlocks_173 rfl rfl ?_
      refine ks_bipush (x := nI 23) dX16_unlocks_175 (by decide) rfl ?_
      refine ks_icmp_neN (tgt := 228) (by omega) (by decide) dX16_unlocks_177 (by decide) rfl (fun hc177 => ?_) (fun hc177 => ?_)
      · refine ks_iconst (x := nI 0) dX16_unlocks_228 (by decide) rfl ?_
        refine ks_istore dX16_unlocks_229 (by decide) rfl ?_
        refine ks_sub [(11, _), (0, _), (1, _), (6, _), (7, _), (8, _), (9, _), (10, _)] rfl ?_
        refine ks_sub [(0, _), (1, _), (6, _), (7, _), (8, _), (9, _), (10, _), (11, _)] rfl ?_
        exact fin false (by
          rw [p2_b]
          refine decide_eq_false (fun h9 => ?_)
          obtain ⟨w1, w2, w3, w4⟩ := h9
          have y1 := hgb8 la (by omega)
          have y2 := hgb8 (la + 1) (by omega)
          have y3 := hgb8 (la + 22) (by omega)
          omega)
      · refine ks_aload dX16_unlocks_180 rfl rfl ?_
        refine ks_getN (T := TX13) (kf := 0) kx_1813 rfl in_X13 cl_X13 (by decide) Xb8.1 rfl dX16_unlocks_182 rfl ?_
        refine ks_iload dX16_unlocks_185 rfl rfl ?_
        refine ks_baldB (i := la) eyb8 rfl (by omega) (by decide) dX16_unlocks_187 rfl ?_
        refine ks_bipush (x := (-87)) dX16_unlocks_188 (by decide) rfl ?_
        refine ks_icmp_neYM (tgt := 228) (kgb8 _) 169 (by decide) (by decide) dX16_unlocks_190 (by decide) rfl (fun hc190 => ?_) (fun hc190 => ?_)
        · refine ks_iconst (x := nI 0) dX16_unlocks_228 (by decide) rfl ?_
          refine ks_istore dX16_unlocks_229 (by decide) rfl ?_
          refine ks_sub [(11, _), (0, _), (1, _), (6, _), (7, _), (8, _), (9, _), (10, _)] rfl ?_
          refine ks_sub [(0, _), (1, _), (6, _), (7, _), (8, _), (9, _), (10, _), (11, _)] rfl ?_
          exact fin false (by
            rw [p2_b]
            refine decide_eq_false (fun h9 => ?_)
            obtain ⟨w1, w2, w3, w4⟩ := h9
            have y1 := hgb8 la (by omega)
            have y2 := hgb8 (la + 1) (by omega)
            have y3 := hgb8 (la + 22) (by omega)
            omega)
        · refine ks_aload dX16_unlocks_193 rfl rfl ?_
          refine ks_getN (T := TX13) (kf := 0) kx_1813 rfl in_X13 cl_X13 (by decide) Xb8.1 rfl dX16_unlocks_195 rfl ?_
          refine ks_iload dX16_unlocks_198 rfl rfl ?_
          refine ks_iconst (x := nI 1) dX16_unlocks_200 (by decide) rfl ?_
          refine ks_addN dX16_unlocks_201 rfl ?_
          refine ks_baldB (i := la + 1) eyb8 rfl (by omega) (by decide) dX16_unlocks_202 rfl ?_
          refine ks_bipush (x := nI 20) dX16_unlocks_203 (by decide) rfl ?_
          refine ks_icmp_neYN (tgt := 228) (kgb8 _) (by decide) dX16_unlocks_205 (by decide) rfl (fun hc205 => ?_) (fun hc205 => ?_)
          · refine ks_iconst (x := nI 0) dX16_unlocks_228 (by decide) rfl ?_
            refine ks_istore dX16_unlocks_229 (by decide) rfl ?_
            refine ks_sub [(11, _), (0, _), (1, _), (6, _), (7, _), (8, _), (9, _), (10, _)] rfl ?_
            refine ks_sub [(0, _), (1, _), (6, _), (7, _), (8, _), (9, _), (10, _), (11, _)] rfl ?_
            exact fin false (by
              rw [p2_b]
              refine decide_eq_false (fun h9 => ?_)
              obtain ⟨w1, w2, w3, w4⟩ := h9
              have y1 := hgb8 la (by omega)
              have y2 := hgb8 (la + 1) (by omega)
              have y3 := hgb8 (la + 22) (by omega)
              omega)
          · refine ks_aload dX16_unlocks_208 rfl rfl ?_
            refine ks_getN (T := TX13) (kf := 0) kx_1813 rfl in_X13 cl_X13 (by decide) Xb8.1 rfl dX16_unlocks_210 rfl ?_
            refine ks_iload dX16_unlocks_213 rfl rfl ?_
            refine ks_bipush (x := nI 22) dX16_unlocks_215 (by decide) rfl ?_
            refine ks_addN dX16_unlocks_217 rfl ?_
            refine ks_baldB (i := la + 22) eyb8 rfl (by omega) (by decide) dX16_unlocks_218 rfl ?_
            refine ks_bipush (x := (-121)) dX16_unlocks_219 (by decide) rfl ?_
            refine ks_icmp_neYM (tgt := 228) (kgb8 _) 135 (by decide) (by decide) dX16_unlocks_221 (by decide) rfl (fun hc221 => ?_) (fun hc221 => ?_)
            · refine ks_iconst (x := nI 0) dX16_unlocks_228 (by decide) rfl ?_
              refine ks_istore dX16_unlocks_229 (by decide) rfl ?_
              refine ks_sub [(11, _), (0, _), (1, _), (6, _), (7, _), (8, _), (9, _), (10, _)] rfl ?_
              refine ks_sub [(0, _), (1, _), (6, _), (7, _), (8, _), (9, _), (10, _), (11, _)] rfl ?_
              exact fin false (by
                rw [p2_b]
                refine decide_eq_false (fun h9 => ?_)
                obtain ⟨w1, w2, w3, w4⟩ := h9
                have y1 := hgb8 la (by omega)
                have y2 := hgb8 (la + 1) (by omega)
                have y3 := hgb8 (la + 22) (by omega)
                omega)
            · refine ks_iconst (x := nI 1) dX16_unlocks_224 (by decide) rfl ?_
              refine ks_goto (tgt := 229) dX16_unlocks_225 (by decide) ?_
              refine ks_istore dX16_unlocks_229 (by decide) rfl ?_
              refine ks_sub [(11, _), (0, _), (1, _), (6, _), (7, _), (8, _), (9, _), (10, _)] rfl ?_
              refine ks_sub [(0, _), (1, _), (6, _), (7, _), (8, _), (9, _), (10, _), (11, _)] rfl ?_
              exact fin true (by
                rw [p2_b]
                exact decide_eq_true ⟨by omega, by rw [← hgb8 _ (by omega)]; omega, by rw [← hgb8 _ (by omega)]; omega, by rw [← hgb8 _ (by omega)]; omega⟩)
    · exact absurd h9 (by decide)
