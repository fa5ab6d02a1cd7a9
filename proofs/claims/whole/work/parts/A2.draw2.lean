/-! THE JUDGE: drawing a block, the whole -/
set_option maxRecDepth 100000 in
set_option maxHeartbeats 800000 in
theorem c_jd_draw0 {l : Launch} {G : ks_G} {d : Nat} {S : ks_S} {dc dp y bt : Nat} {dt : Int64} {rs : Int32} {Ds : Nat → dTx} {gi0 gr0 gy : Nat → Nat} {od ow : Option (List Nat)} (h0 : S.2.2 0 = some (jdO dc dp dt rs)) (hD : dfS S Ds) (hdc : dc ≤ 12) (hK : ks_stOK S) (hh : hsO S) (hw : bfS S 5 6 8000 ow) (hd : bfS S 3 4 1600 od) (h53 : S.2.2 53 = some (kB 384 gi0)) (kg0 : kO gi0) (h54 : S.2.2 54 = some (kB 32 gr0)) (kr0 : kO gr0) (h55 : S.2.2 55 = some (kB 32 (fun _ => 0))) (hy : S.2.2 y = some (kB 32 gy)) (kgy : kO gy) (hy55 : 55 ≤ y) : ks_P l G yX11_draw mX11_draw (d + 6) [.ref 0, .int (nI 0), .ref y, .int (nI bt)] S (fun z S' => z = none ∧ ks_up S S' LDr ∧ hsO S' ∧ (∃ ow, bfS S' 5 6 8000 ow) ∧ (∃ g, kO g ∧ S'.2.2 53 = some (kB 384 g)) ∧ (∃ g, kO g ∧ S'.2.2 54 = some (kB 32 g)) ∧ bfS S' 3 4 1600 (drC (drH 0 (bytL gy 0 32) dt (nI bt) Ds dc ++ cntL dc) Ds dc)) := by
  refine ks_of (by decide) rfl rfl (Nat.le_of_ble_eq_true rfl) ?_
  show ks_X l G mX11_draw (d + 6) 0 [(0, .ref 0), (1, .int (nI 0)), (2, .ref y), (3, .int (nI bt))] [] S _
  refine ks_iconst (x := nI 0) dX11_draw_0 (by decide) rfl ?_
  refine ks_istore dX11_draw_1 (by decide) rfl ?_
  refine ks_sub [(4, _), (0, _), (1, _), (2, _), (3, _)] rfl ?_
  refine ks_sub [(0, _), (1, _), (2, _), (3, _), (4, _)] rfl (l_drNames h0 hD hdc hK (fun S2 gi u2 hh2 ⟨ow2, W2⟩ e53 kgi hgi => ?_) dc 0 S gi0 (by omega) (ks_up.rf _ _) hh ⟨ow, hw⟩ h53 kg0 (fun j hj => absurd hj (by omega)))
  have ny : ∀ L : List Nat, (∀ x ∈ L, x < 55) → y ∉ L := fun L hL hx => by have := hL y hx; omega
  have a0 : S2.2.2 0 = some (.inr (14, [.ref 1, .ref 3, .ref 5, .ref 7, .ref 14, .ref 20, .ref 27, .ref 41, .ref 52, .ref 53, .ref 54, .ref 55, .int (nI dc), .int (nI dp), .long dt, .int rs])) := u2.at h0 (by decide)
  have K2 := u2.st hK (by unfold ks_B; decide)
  have e54x : ∃ gr, kO gr ∧ S2.2.2 54 = some (kB 32 gr) := ⟨_, kr0, u2.at h54 (by decide)⟩
  obtain ⟨gr, kgr, e54⟩ := e54x
  have B2 : ∃ o3, bfS S2 3 4 1600 o3 := ⟨_, hd.up u2 (by decide) (by decide)⟩
  obtain ⟨o3, B2⟩ := B2
  have O7 := hh2.1
  refine ks_aload_n dX11_draw_33 rfl rfl ?_
  refine ks_getf (T := TX11) (kf := 3) kx_1056 rfl in_X11 cl_X11 (by decide) a0 rfl dX11_draw_34 rfl ?_
  refine ks_aload_n dX11_draw_37 rfl rfl ?_
  refine ks_getf (T := TX11) (kf := 9) kx_1062 rfl in_X11 cl_X11 (by decide) a0 rfl dX11_draw_38 rfl ?_
  refine ks_aload_n dX11_draw_41 rfl rfl ?_
  refine ks_getf (T := TX11) (kf := 12) kx_1065 rfl in_X11 cl_X11 (by decide) a0 rfl dX11_draw_42 rfl ?_
  refine ks_aload_n dX11_draw_45 rfl rfl ?_
  refine ks_getf (T := TX11) (kf := 10) kx_1063 rfl in_X11 cl_X11 (by decide) a0 rfl dX11_draw_46 rfl ?_
  refine ks_callV (n := 3) (M' := mX6_root) (c_root (d := d) hh2 hs_neO K2 e53 kgi hdc (by omega) (by decide) e54 kgr (by decide) (by decide) (by decide) (by decide) (by decide) (by decide)) O7 cl_X6 rfl kx_904 kx_905 kx_906 kx_3 kx_907 (by decide +kernel) rfl (by decide) (Nat.le_of_ble_eq_true rfl) rfl dX11_draw_49 rfl (fun z3 T3 y3 => ?_)
  obtain ⟨rfl, w3, hh3, e54b⟩ := y3
  have u3 := (u2.mono (L' := LDr) (by decide)).trans (w3.mono (L' := LDr) (by decide))
  have b0 := w3.at a0 (by decide)
  have e53b := w3.at e53 (by decide)
  have B3 := B2.up w3 (by decide) (by decide)
  have W3 := W2.up w3 (by decide) (by decide)
  have K3 := w3.st K2 (by unfold ks_B; decide)
  have k54 : kO (ks_pt (root_ gi dc) gr 0 32) := kO_pt (kO_root kgi dc) kgr 0 32
  have er : ∀ j, j < 32 → ks_pt (root_ gi dc) gr 0 32 j = root_ (idG Ds) dc j := fun j hj => by
    have e1 := ks_pt_in (root_ gi dc) gr 0 32 hj
    rw [Nat.zero_add] at e1
    rw [e1]
    exact root_c hgi j hj
  generalize ks_pt (root_ gi dc) gr 0 32 = gq at *
  refine ks_iload_n dX11_draw_52 rfl rfl ?_
  refine ks_iconst (x := nI 1) dX11_draw_53 (by decide) rfl ?_
  refine ks_icmp_neN (tgt := 68) (by decide) (by decide) dX11_draw_54 (by decide) rfl (fun _ => ?_) (fun h => absurd h (by decide))
  obtain ⟨S4, hS4⟩ : ∃ S4, S4 = T3 := ⟨_, rfl⟩
  refine ks_tS (S' := S4) hS4.symm ?_
  have w4 : ks_up T3 S4 [54] := by rw [hS4]; exact ks_up.rf _ _
  have e54c : S4.2.2 54 = some (kB 32 gq) := by rw [hS4]; exact e54b
  have k54c := k54
  have er2 : ∀ j, j < 32 → gq j = drR 0 Ds dc j := fun j hj => by
    unfold drR
    rw [if_neg (fun h => absurd h.1 (by decide))]
    exact er j hj
  have u4 := u3.trans (w4.mono (L' := LDr) (by decide))
  have c0 := w4.at b0 (by decide)
  have hh4 := hh3.up w4 (by decide)
  have e53c := w4.at e53b (by decide)
  have B4 := B3.up w4 (by decide) (by decide)
  have W4 := W3.up w4 (by decide) (by decide)
  obtain ⟨gz, hgz⟩ : ∃ g, g = gq := ⟨_, rfl⟩
  rw [← hgz] at e54c k54c er2
  obtain ⟨l3, g3, -, -, -, a3, -⟩ := id B4
  refine ks_aload_n dX11_draw_68 rfl rfl ?_
  refine ks_getf (T := TX11) (kf := 1) kx_1054 rfl in_X11 cl_X11 (by decide) c0 rfl dX11_draw_69 rfl ?_
  refine ks_callV (n := 0) (M' := mX1_clear) (bf_clear (d := d + 5) B4) a3 cl_X1 rfl kx_842 kx_843 kx_844 kx_2 kx_845 (by decide +kernel) rfl (by decide) (Nat.le_of_ble_eq_true rfl) rfl dX11_draw_72 rfl (fun z5 T5 y5 => ?_)
  obtain ⟨rfl, w5, B5⟩ := y5
  have c0_5 := w5.at c0 (by decide)
  obtain ⟨l5, g5, -, -, -, a3_5, -⟩ := id B5
  refine ks_aload_n dX11_draw_75 rfl rfl ?_
  refine ks_getf (T := TX11) (kf := 1) kx_1054 rfl in_X11 cl_X11 (by decide) c0_5 rfl dX11_draw_76 rfl ?_
  refine ks_iload_n dX11_draw_79 rfl rfl ?_
  refine ks_iconst (x := nI 4) dX11_draw_80 (by decide) rfl ?_
  refine ks_icmp_neN (tgt := 90) (by decide) (by decide) dX11_draw_81 (by decide) rfl (fun _ => ?_) (fun h => absurd h (by decide))
  refine ks_lconst (x := lN 1) dX11_draw_90 (by decide) rfl ?_
  refine ks_iconst (x := nI 4) dX11_draw_91 (by decide) rfl ?_
  refine ks_callV (n := 2) (M' := mX1_addNumber) (bf_number (d := d + 5) (v := lN 1) B5 (by decide) (by decide)) a3_5 cl_X1 rfl kx_828 kx_829 kx_830 kx_2 kx_831 (by decide +kernel) rfl (by decide) (Nat.le_of_ble_eq_true rfl) rfl dX11_draw_92 rfl (fun z6 T6 y6 => ?_)
  obtain ⟨rfl, w6, B6⟩ := y6
  have c0_6 := w6.at c0_5 (by decide)
  obtain ⟨l6, g6, -, -, -, a3_6, -⟩ := id B6
  refine ks_aload_n dX11_draw_95 rfl rfl ?_
  refine ks_getf (T := TX11) (kf := 1) kx_1054 rfl in_X11 cl_X11 (by decide) c0_6 rfl dX11_draw_96 rfl ?_
  refine ks_iload_n dX11_draw_99 rfl rfl ?_
  refine ks_iconst (x := nI 5) dX11_draw_100 (by decide) rfl ?_
  refine ks_icmp_neN (tgt := 111) (by decide) (by decide) dX11_draw_101 (by decide) rfl (fun _ => ?_) (fun h => absurd h (by decide))
  refine ks_aload_n dX11_draw_111 rfl rfl ?_
  refine ks_iconst (x := nI 0) dX11_draw_112 (by decide) rfl ?_
  refine ks_bipush (x := nI 32) dX11_draw_113 (by decide) rfl ?_
  have hz6 : T6.2.2 y = some (kB 32 gy) := (w6.at (w5.at (w4.at (w3.at (u2.at hy (ny _ (by decide))) (ny _ (by decide))) (ny _ (by decide))) (ny _ (by decide))) (ny _ (by decide)))
  refine ks_callV (n := 3) (M' := mX1_addBytes) (bf_bytes (d := d + 4) (i := 0) (n := 32) B6 (by decide) hz6 kgy (by decide) (by decide)) a3_6 cl_X1 rfl kx_910 kx_872 kx_873 kx_2 kx_874 (by decide +kernel) rfl (by decide) (Nat.le_of_ble_eq_true rfl) rfl dX11_draw_115 rfl (fun z7 T7 y7 => ?_)
  obtain ⟨rfl, w7, B7⟩ := y7
  have c0_7 := w7.at c0_6 (by decide)
  obtain ⟨l7, g7, -, -, -, a3_7, -⟩ := id B7
  have hz7 : T7.2.2 54 = some (kB 32 gz) := w7.at (w6.at (w5.at e54c (by decide)) (by decide)) (by decide)
  refine ks_aload_n dX11_draw_118 rfl rfl ?_
  refine ks_getf (T := TX11) (kf := 1) kx_1054 rfl in_X11 cl_X11 (by decide) c0_7 rfl dX11_draw_119 rfl ?_
  refine ks_aload_n dX11_draw_122 rfl rfl ?_
  refine ks_getf (T := TX11) (kf := 10) kx_1063 rfl in_X11 cl_X11 (by decide) c0_7 rfl dX11_draw_123 rfl ?_
  refine ks_iconst (x := nI 0) dX11_draw_126 (by decide) rfl ?_
  refine ks_bipush (x := nI 32) dX11_draw_127 (by decide) rfl ?_
  refine ks_callV (n := 3) (M' := mX1_addBytes) (bf_bytes (d := d + 4) (i := 0) (n := 32) B7 (by decide) hz7 k54c (by decide) (by decide)) a3_7 cl_X1 rfl kx_910 kx_872 kx_873 kx_2 kx_874 (by decide +kernel) rfl (by decide) (Nat.le_of_ble_eq_true rfl) rfl dX11_draw_129 rfl (fun z8 T8 y8 => ?_)
  obtain ⟨rfl, w8, B8⟩ := y8
  have c0_8 := w8.at c0_7 (by decide)
  obtain ⟨l8, g8, -, -, -, a3_8, -⟩ := id B8
  refine ks_aload_n dX11_draw_132 rfl rfl ?_
  refine ks_getf (T := TX11) (kf := 1) kx_1054 rfl in_X11 cl_X11 (by decide) c0_8 rfl dX11_draw_133 rfl ?_
  refine ks_aload_n dX11_draw_136 rfl rfl ?_
  refine ks_getf (T := TX11) (kf := 14) kx_1067 rfl in_X11 cl_X11 (by decide) c0_8 rfl dX11_draw_137 rfl ?_
  refine ks_iconst (x := nI 4) dX11_draw_140 (by decide) rfl ?_
  refine ks_callV (n := 2) (M' := mX1_addNumber) (bf_number (d := d + 5) (v := dt) B8 (by decide) (by decide)) a3_8 cl_X1 rfl kx_828 kx_829 kx_830 kx_2 kx_831 (by decide +kernel) rfl (by decide) (Nat.le_of_ble_eq_true rfl) rfl dX11_draw_141 rfl (fun z9 T9 y9 => ?_)
  obtain ⟨rfl, w9, B9⟩ := y9
  have c0_9 := w9.at c0_8 (by decide)
  obtain ⟨l9, g9, -, -, -, a3_9, -⟩ := id B9
  refine ks_aload_n dX11_draw_144 rfl rfl ?_
  refine ks_getf (T := TX11) (kf := 1) kx_1054 rfl in_X11 cl_X11 (by decide) c0_9 rfl dX11_draw_145 rfl ?_
  refine ks_iload_n dX11_draw_148 rfl rfl ?_
  refine ks_iconst (x := nI 2) dX11_draw_149 (by decide) rfl ?_
  refine ks_icmp_neN (tgt := 160) (by decide) (by decide) dX11_draw_150 (by decide) rfl (fun _ => ?_) (fun h => absurd h (by decide))
  refine ks_iload_n dX11_draw_160 rfl rfl ?_
  refine ks_i2l dX11_draw_161 rfl ?_
  refine ks_iconst (x := nI 4) dX11_draw_162 (by decide) rfl ?_
  refine ks_callV (n := 2) (M' := mX1_addNumber) (bf_number (d := d + 5) (v := (nI bt).toInt64) B9 (by decide) (by decide)) a3_9 cl_X1 rfl kx_828 kx_829 kx_830 kx_2 kx_831 (by decide +kernel) rfl (by decide) (Nat.le_of_ble_eq_true rfl) rfl dX11_draw_163 rfl (fun z10 T10 y10 => ?_)
  obtain ⟨rfl, w10, B10⟩ := y10
  have c0_10 := w10.at c0_9 (by decide)
  obtain ⟨l10, g10, -, -, -, a3_10, -⟩ := id B10
  refine ks_aload_n dX11_draw_166 rfl rfl ?_
  refine ks_getf (T := TX11) (kf := 1) kx_1054 rfl in_X11 cl_X11 (by decide) c0_10 rfl dX11_draw_167 rfl ?_
  refine ks_lconst (x := lN 0) dX11_draw_170 (by decide) rfl ?_
  refine ks_iconst (x := nI 4) dX11_draw_171 (by decide) rfl ?_
  refine ks_callV (n := 2) (M' := mX1_addNumber) (bf_number (d := d + 5) (v := lN 0) B10 (by decide) (by decide)) a3_10 cl_X1 rfl kx_828 kx_829 kx_830 kx_2 kx_831 (by decide +kernel) rfl (by decide) (Nat.le_of_ble_eq_true rfl) rfl dX11_draw_172 rfl (fun z11 T11 y11 => ?_)
  obtain ⟨rfl, w11, B11⟩ := y11
  have c0_11 := w11.at c0_10 (by decide)
  obtain ⟨l11, g11, -, -, -, a3_11, -⟩ := id B11
  refine ks_aload_n dX11_draw_175 rfl rfl ?_
  refine ks_getf (T := TX11) (kf := 1) kx_1054 rfl in_X11 cl_X11 (by decide) c0_11 rfl dX11_draw_176 rfl ?_
  refine ks_aload_n dX11_draw_179 rfl rfl ?_
  refine ks_getf (T := TX11) (kf := 12) kx_1065 rfl in_X11 cl_X11 (by decide) c0_11 rfl dX11_draw_180 rfl ?_
  refine ks_callV (n := 1) (M' := mX1_addCount) (bf_count (d := d + 5) (n := dc) B11 (by decide) (by omega)) a3_11 cl_X1 rfl kx_911 kx_868 kx_869 kx_2 kx_870 (by decide +kernel) rfl (by decide) (Nat.le_of_ble_eq_true rfl) rfl dX11_draw_183 rfl (fun z12 T12 y12 => ?_)
  obtain ⟨rfl, w12, B12⟩ := y12
  have c0_12 := w12.at c0_11 (by decide)
  obtain ⟨l12, g12, -, -, -, a3_12, -⟩ := id B12
  have ez : bytL gz 0 32 = bytL (drR 0 Ds dc) 0 32 := bytL_c (fun k hk => by rw [Nat.zero_add]; exact er2 k hk)
  have cl : (cntL dc).length = 1 := by unfold cntL; rw [if_pos (by omega)]; rfl
  rw [ez, bfA_ok (by rw [List.length_nil, numL_len]; decide), List.nil_append, bfA_ok (by rw [numL_len, bytL_len]; decide), bfA_ok (by rw [List.length_append, numL_len, bytL_len, bytL_len]; decide), bfA_ok (by rw [List.length_append, List.length_append, numL_len, bytL_len, bytL_len, numL_len]; decide), bfA_ok (by simp only [List.length_append, numL_len, bytL_len]; decide), bfA_ok (by simp only [List.length_append, numL_len, bytL_len]; decide), bfA_ok (by simp only [List.length_append, numL_len, bytL_len, cl]; decide)] at B12
  have epre : numL (lN 1) 4 ++ bytL gy 0 32 ++ bytL (drR 0 Ds dc) 0 32 ++ numL dt 4 ++ numL ((nI bt).toInt64) 4 ++ numL (lN 0) 4 ++ cntL dc = drH 0 (bytL gy 0 32) dt (nI bt) Ds dc ++ cntL dc := by rfl
  rw [epre] at B12
  have plen : (drH 0 (bytL gy 0 32) dt (nI bt) Ds dc ++ cntL dc).length = 81 := by rw [← epre]; simp only [List.length_append, numL_len, bytL_len, cl]
  have B13 : bfS T12 3 4 1600 (drC (drH 0 (bytL gy 0 32) dt (nI bt) Ds dc ++ cntL dc) Ds 0) := by
    unfold drC
    rw [show catT Ds 0 = [] from rfl, List.append_nil, if_pos (by rw [plen]; decide)]
    exact B12
  have w34 : ks_up S4 T12 [3, 4] := ((((((w5.mono (by decide)).trans (w6.mono (by decide))).trans (w7.mono (by decide))).trans (w8.mono (by decide))).trans (w9.mono (by decide))).trans (w10.mono (by decide))).trans ((w11.mono (by decide)).trans (w12.mono (by decide)))
  have u12 := u4.trans (w34.mono (L' := LDr) (by decide))
  have hh12 := hh4.up w34 (by decide)
  have W12 := W4.up w34 (by decide) (by decide)
  have e53d := w34.at e53c (by decide)
  have e54d := w34.at e54c (by decide)
  have D12 := hD.up u12 ldr_c
  have K12 := u12.st hK (by unfold ks_B; decide)
  have j0 : T12.2.2 0 = some (jdO dc dp dt rs) := u12.at h0 (by decide)
  refine ks_iconst (x := nI 0) dX11_draw_186 (by decide) rfl ?_
  refine ks_istore dX11_draw_187 (by decide) rfl ?_
  refine ks_sub [(4, _), (0, _), (1, _), (2, _), (3, _)] rfl ?_
  refine ks_sub [(0, _), (1, _), (2, _), (3, _), (4, _)] rfl (l_drLoop (d := d) (dp := dp) (rs := rs) (pre := drH 0 (bytL gy 0 32) dt (nI bt) Ds dc ++ cntL dc) j0 D12 hdc K12 (fun S9 u9 W9 B9 => ?_) dc 0 T12 (by omega) (ks_up.rf _ _) ⟨_, W12⟩ B13)
  exact ⟨rfl, u12.trans (u9.mono (by decide)), hh12.up u9 (by decide), W9, ⟨_, kgi, u9.at e53d (by decide)⟩, ⟨_, k54c, u9.at e54d (by decide)⟩, B9⟩
set_option maxRecDepth 100000 in
set_option maxHeartbeats 800000 in
theorem c_jd_draw1 {l : Launch} {G : ks_G} {d : Nat} {S : ks_S} {dc dp y bt : Nat} {dt : Int64} {rs : Int32} {Ds : Nat → dTx} {gi0 gr0 gy : Nat → Nat} {od ow : Option (List Nat)} (h0 : S.2.2 0 = some (jdO dc dp dt rs)) (hD : dfS S Ds) (hdc : dc ≤ 12) (hK : ks_stOK S) (hh : hsO S) (hw : bfS S 5 6 8000 ow) (hd : bfS S 3 4 1600 od) (h53 : S.2.2 53 = some (kB 384 gi0)) (kg0 : kO gi0) (h54 : S.2.2 54 = some (kB 32 gr0)) (kr0 : kO gr0) (h55 : S.2.2 55 = some (kB 32 (fun _ => 0))) (hy : S.2.2 y = some (kB 32 gy)) (kgy : kO gy) (hy55 : 55 ≤ y) : ks_P l G yX11_draw mX11_draw (d + 6) [.ref 0, .int (nI 1), .ref y, .int (nI bt)] S (fun z S' => z = none ∧ ks_up S S' LDr ∧ hsO S' ∧ (∃ ow, bfS S' 5 6 8000 ow) ∧ (∃ g, kO g ∧ S'.2.2 53 = some (kB 384 g)) ∧ (∃ g, kO g ∧ S'.2.2 54 = some (kB 32 g)) ∧ bfS S' 3 4 1600 (drC (drH 1 (bytL gy 0 32) dt (nI bt) Ds dc ++ cntL dc) Ds dc)) := by
  refine ks_of (by decide) rfl rfl (Nat.le_of_ble_eq_true rfl) ?_
  show ks_X l G mX11_draw (d + 6) 0 [(0, .ref 0), (1, .int (nI 1)), (2, .ref y), (3, .int (nI bt))] [] S _
  refine ks_iconst (x := nI 0) dX11_draw_0 (by decide) rfl ?_
  refine ks_istore dX11_draw_1 (by decide) rfl ?_
  refine ks_sub [(4, _), (0, _), (1, _), (2, _), (3, _)] rfl ?_
  refine ks_sub [(0, _), (1, _), (2, _), (3, _), (4, _)] rfl (l_drNames h0 hD hdc hK (fun S2 gi u2 hh2 ⟨ow2, W2⟩ e53 kgi hgi => ?_) dc 0 S gi0 (by omega) (ks_up.rf _ _) hh ⟨ow, hw⟩ h53 kg0 (fun j hj => absurd hj (by omega)))
  have ny : ∀ L : List Nat, (∀ x ∈ L, x < 55) → y ∉ L := fun L hL hx => by have := hL y hx; omega
  have a0 : S2.2.2 0 = some (.inr (14, [.ref 1, .ref 3, .ref 5, .ref 7, .ref 14, .ref 20, .ref 27, .ref 41, .ref 52, .ref 53, .ref 54, .ref 55, .int (nI dc), .int (nI dp), .long dt, .int rs])) := u2.at h0 (by decide)
  have K2 := u2.st hK (by unfold ks_B; decide)
  have e54x : ∃ gr, kO gr ∧ S2.2.2 54 = some (kB 32 gr) := ⟨_, kr0, u2.at h54 (by decide)⟩
  obtain ⟨gr, kgr, e54⟩ := e54x
  have B2 : ∃ o3, bfS S2 3 4 1600 o3 := ⟨_, hd.up u2 (by decide) (by decide)⟩
  obtain ⟨o3, B2⟩ := B2
  have O7 := hh2.1
  refine ks_aload_n dX11_draw_33 rfl rfl ?_
  refine ks_getf (T := TX11) (kf := 3) kx_1056 rfl in_X11 cl_X11 (by decide) a0 rfl dX11_draw_34 rfl ?_
  refine ks_aload_n dX11_draw_37 rfl rfl ?_
  refine ks_getf (T := TX11) (kf := 9) kx_1062 rfl in_X11 cl_X11 (by decide) a0 rfl dX11_draw_38 rfl ?_
  refine ks_aload_n dX11_draw_41 rfl rfl ?_
  refine ks_getf (T := TX11) (kf := 12) kx_1065 rfl in_X11 cl_X11 (by decide) a0 rfl dX11_draw_42 rfl ?_
  refine ks_aload_n dX11_draw_45 rfl rfl ?_
  refine ks_getf (T := TX11) (kf := 10) kx_1063 rfl in_X11 cl_X11 (by decide) a0 rfl dX11_draw_46 rfl ?_
  refine ks_callV (n := 3) (M' := mX6_root) (c_root (d := d) hh2 hs_neO K2 e53 kgi hdc (by omega) (by decide) e54 kgr (by decide) (by decide) (by decide) (by decide) (by decide) (by decide)) O7 cl_X6 rfl kx_904 kx_905 kx_906 kx_3 kx_907 (by decide +kernel) rfl (by decide) (Nat.le_of_ble_eq_true rfl) rfl dX11_draw_49 rfl (fun z3 T3 y3 => ?_)
  obtain ⟨rfl, w3, hh3, e54b⟩ := y3
  have u3 := (u2.mono (L' := LDr) (by decide)).trans (w3.mono (L' := LDr) (by decide))
  have b0 := w3.at a0 (by decide)
  have e53b := w3.at e53 (by decide)
  have B3 := B2.up w3 (by decide) (by decide)
  have W3 := W2.up w3 (by decide) (by decide)
  have K3 := w3.st K2 (by unfold ks_B; decide)
  have k54 : kO (ks_pt (root_ gi dc) gr 0 32) := kO_pt (kO_root kgi dc) kgr 0 32
  have er : ∀ j, j < 32 → ks_pt (root_ gi dc) gr 0 32 j = root_ (idG Ds) dc j := fun j hj => by
    have e1 := ks_pt_in (root_ gi dc) gr 0 32 hj
    rw [Nat.zero_add] at e1
    rw [e1]
    exact root_c hgi j hj
  generalize ks_pt (root_ gi dc) gr 0 32 = gq at *
  refine ks_iload_n dX11_draw_52 rfl rfl ?_
  refine ks_iconst (x := nI 1) dX11_draw_53 (by decide) rfl ?_
  refine ks_icmp_neN (tgt := 68) (by decide) (by decide) dX11_draw_54 (by decide) rfl (fun h => absurd h (by decide)) (fun _ => ?_)
  refine ks_aload_n dX11_draw_57 rfl rfl ?_
  refine ks_getf (T := TX11) (kf := 10) kx_1063 rfl in_X11 cl_X11 (by decide) b0 rfl dX11_draw_58 rfl ?_
  refine ks_iconst (x := nI 0) dX11_draw_61 (by decide) rfl ?_
  refine ks_dup2_11 dX11_draw_62 rfl rfl rfl ?_
  refine ks_baldB (i := 0) e54b rfl (by decide) (by decide) dX11_draw_63 rfl ?_
  refine ks_iconst (x := nI 1) dX11_draw_64 (by decide) rfl ?_
  refine ks_iadd dX11_draw_65 rfl ?_
  refine ks_i2b dX11_draw_66 rfl ?_
  refine ks_bastB (i := 0) (c := (1 + gq 0) % 256) e54b rfl (by decide) (by decide) ((ks_by_i8 _).trans (wk_inc _ (k54 0))) dX11_draw_67 rfl ?_
  obtain ⟨S4, hS4⟩ : ∃ S4, S4 = ks_set T3 54 (kB 32 (va_up gq 0 ((1 + gq 0) % 256))) := ⟨_, rfl⟩
  refine ks_tS (S' := S4) hS4.symm ?_
  have w4 : ks_up T3 S4 [54] := by rw [hS4]; exact ks_up_set _ _ List.mem_cons_self
  have e54c : S4.2.2 54 = some (kB 32 (va_up gq 0 ((1 + gq 0) % 256))) := by rw [hS4]; exact ks_set_same _ _ _
  have k54c : kO (va_up gq 0 ((1 + gq 0) % 256)) := kO_up k54 (by omega)
  have er2 : ∀ j, j < 32 → va_up gq 0 ((1 + gq 0) % 256) j = drR 1 Ds dc j := fun j hj => by
    unfold drR
    by_cases j0 : j = 0
    · subst j0; rw [va_up_self, if_pos ⟨rfl, rfl⟩, er 0 (by decide)]
    · rw [va_up_ne _ _ j0, if_neg (fun h => j0 h.2)]; exact er j hj
  have u4 := u3.trans (w4.mono (L' := LDr) (by decide))
  have c0 := w4.at b0 (by decide)
  have hh4 := hh3.up w4 (by decide)
  have e53c := w4.at e53b (by decide)
  have B4 := B3.up w4 (by decide) (by decide)
  have W4 := W3.up w4 (by decide) (by decide)
  obtain ⟨gz, hgz⟩ : ∃ g, g = va_up gq 0 ((1 + gq 0) % 256) := ⟨_, rfl⟩
  rw [← hgz] at e54c k54c er2
  obtain ⟨l3, g3, -, -, -, a3, -⟩ := id B4
  refine ks_aload_n dX11_draw_68 rfl rfl ?_
  refine ks_getf (T := TX11) (kf := 1) kx_1054 rfl in_X11 cl_X11 (by decide) c0 rfl dX11_draw_69 rfl ?_
  refine ks_callV (n := 0) (M' := mX1_clear) (bf_clear (d := d + 5) B4) a3 cl_X1 rfl kx_842 kx_843 kx_844 kx_2 kx_845 (by decide +kernel) rfl (by decide) (Nat.le_of_ble_eq_true rfl) rfl dX11_draw_72 rfl (fun z5 T5 y5 => ?_)
  obtain ⟨rfl, w5, B5⟩ := y5
  have c0_5 := w5.at c0 (by decide)
  obtain ⟨l5, g5, -, -, -, a3_5, -⟩ := id B5
  refine ks_aload_n dX11_draw_75 rfl rfl ?_
  refine ks_getf (T := TX11) (kf := 1) kx_1054 rfl in_X11 cl_X11 (by decide) c0_5 rfl dX11_draw_76 rfl ?_
  refine ks_iload_n dX11_draw_79 rfl rfl ?_
  refine ks_iconst (x := nI 4) dX11_draw_80 (by decide) rfl ?_
  refine ks_icmp_neN (tgt := 90) (by decide) (by decide) dX11_draw_81 (by decide) rfl (fun _ => ?_) (fun h => absurd h (by decide))
  refine ks_lconst (x := lN 1) dX11_draw_90 (by decide) rfl ?_
  refine ks_iconst (x := nI 4) dX11_draw_91 (by decide) rfl ?_
  refine ks_callV (n := 2) (M' := mX1_addNumber) (bf_number (d := d + 5) (v := lN 1) B5 (by decide) (by decide)) a3_5 cl_X1 rfl kx_828 kx_829 kx_830 kx_2 kx_831 (by decide +kernel) rfl (by decide) (Nat.le_of_ble_eq_true rfl) rfl dX11_draw_92 rfl (fun z6 T6 y6 => ?_)
  obtain ⟨rfl, w6, B6⟩ := y6
  have c0_6 := w6.at c0_5 (by decide)
  obtain ⟨l6, g6, -, -, -, a3_6, -⟩ := id B6
  refine ks_aload_n dX11_draw_95 rfl rfl ?_
  refine ks_getf (T := TX11) (kf := 1) kx_1054 rfl in_X11 cl_X11 (by decide) c0_6 rfl dX11_draw_96 rfl ?_
  refine ks_iload_n dX11_draw_99 rfl rfl ?_
  refine ks_iconst (x := nI 5) dX11_draw_100 (by decide) rfl ?_
  refine ks_icmp_neN (tgt := 111) (by decide) (by decide) dX11_draw_101 (by decide) rfl (fun _ => ?_) (fun h => absurd h (by decide))
  refine ks_aload_n dX11_draw_111 rfl rfl ?_
  refine ks_iconst (x := nI 0) dX11_draw_112 (by decide) rfl ?_
  refine ks_bipush (x := nI 32) dX11_draw_113 (by decide) rfl ?_
  have hz6 : T6.2.2 y = some (kB 32 gy) := (w6.at (w5.at (w4.at (w3.at (u2.at hy (ny _ (by decide))) (ny _ (by decide))) (ny _ (by decide))) (ny _ (by decide))) (ny _ (by decide)))
  refine ks_callV (n := 3) (M' := mX1_addBytes) (bf_bytes (d := d + 4) (i := 0) (n := 32) B6 (by decide) hz6 kgy (by decide) (by decide)) a3_6 cl_X1 rfl kx_910 kx_872 kx_873 kx_2 kx_874 (by decide +kernel) rfl (by decide) (Nat.le_of_ble_eq_true rfl) rfl dX11_draw_115 rfl (fun z7 T7 y7 => ?_)
  obtain ⟨rfl, w7, B7⟩ := y7
  have c0_7 := w7.at c0_6 (by decide)
  obtain ⟨l7, g7, -, -, -, a3_7, -⟩ := id B7
  have hz7 : T7.2.2 54 = some (kB 32 gz) := w7.at (w6.at (w5.at e54c (by decide)) (by decide)) (by decide)
  refine ks_aload_n dX11_draw_118 rfl rfl ?_
  refine ks_getf (T := TX11) (kf := 1) kx_1054 rfl in_X11 cl_X11 (by decide) c0_7 rfl dX11_draw_119 rfl ?_
  refine ks_aload_n dX11_draw_122 rfl rfl ?_
  refine ks_getf (T := TX11) (kf := 10) kx_1063 rfl in_X11 cl_X11 (by decide) c0_7 rfl dX11_draw_123 rfl ?_
  refine ks_iconst (x := nI 0) dX11_draw_126 (by decide) rfl ?_
  refine ks_bipush (x := nI 32) dX11_draw_127 (by decide) rfl ?_
  refine ks_callV (n := 3) (M' := mX1_addBytes) (bf_bytes (d := d + 4) (i := 0) (n := 32) B7 (by decide) hz7 k54c (by decide) (by decide)) a3_7 cl_X1 rfl kx_910 kx_872 kx_873 kx_2 kx_874 (by decide +kernel) rfl (by decide) (Nat.le_of_ble_eq_true rfl) rfl dX11_draw_129 rfl (fun z8 T8 y8 => ?_)
  obtain ⟨rfl, w8, B8⟩ := y8
  have c0_8 := w8.at c0_7 (by decide)
  obtain ⟨l8, g8, -, -, -, a3_8, -⟩ := id B8
  refine ks_aload_n dX11_draw_132 rfl rfl ?_
  refine ks_getf (T := TX11) (kf := 1) kx_1054 rfl in_X11 cl_X11 (by decide) c0_8 rfl dX11_draw_133 rfl ?_
  refine ks_aload_n dX11_draw_136 rfl rfl ?_
  refine ks_getf (T := TX11) (kf := 14) kx_1067 rfl in_X11 cl_X11 (by decide) c0_8 rfl dX11_draw_137 rfl ?_
  refine ks_iconst (x := nI 4) dX11_draw_140 (by decide) rfl ?_
  refine ks_callV (n := 2) (M' := mX1_addNumber) (bf_number (d := d + 5) (v := dt) B8 (by decide) (by decide)) a3_8 cl_X1 rfl kx_828 kx_829 kx_830 kx_2 kx_831 (by decide +kernel) rfl (by decide) (Nat.le_of_ble_eq_true rfl) rfl dX11_draw_141 rfl (fun z9 T9 y9 => ?_)
  obtain ⟨rfl, w9, B9⟩ := y9
  have c0_9 := w9.at c0_8 (by decide)
  obtain ⟨l9, g9, -, -, -, a3_9, -⟩ := id B9
  refine ks_aload_n dX11_draw_144 rfl rfl ?_
  refine ks_getf (T := TX11) (kf := 1) kx_1054 rfl in_X11 cl_X11 (by decide) c0_9 rfl dX11_draw_145 rfl ?_
  refine ks_iload_n dX11_draw_148 rfl rfl ?_
  refine ks_iconst (x := nI 2) dX11_draw_149 (by decide) rfl ?_
  refine ks_icmp_neN (tgt := 160) (by decide) (by decide) dX11_draw_150 (by decide) rfl (fun _ => ?_) (fun h => absurd h (by decide))
  refine ks_iload_n dX11_draw_160 rfl rfl ?_
  refine ks_i2l dX11_draw_161 rfl ?_
  refine ks_iconst (x := nI 4) dX11_draw_162 (by decide) rfl ?_
  refine ks_callV (n := 2) (M' := mX1_addNumber) (bf_number (d := d + 5) (v := (nI bt).toInt64) B9 (by decide) (by decide)) a3_9 cl_X1 rfl kx_828 kx_829 kx_830 kx_2 kx_831 (by decide +kernel) rfl (by decide) (Nat.le_of_ble_eq_true rfl) rfl dX11_draw_163 rfl (fun z10 T10 y10 => ?_)
  obtain ⟨rfl, w10, B10⟩ := y10
  have c0_10 := w10.at c0_9 (by decide)
  obtain ⟨l10, g10, -, -, -, a3_10, -⟩ := id B10
  refine ks_aload_n dX11_draw_166 rfl rfl ?_
  refine ks_getf (T := TX11) (kf := 1) kx_1054 rfl in_X11 cl_X11 (by decide) c0_10 rfl dX11_draw_167 rfl ?_
  refine ks_lconst (x := lN 0) dX11_draw_170 (by decide) rfl ?_
  refine ks_iconst (x := nI 4) dX11_draw_171 (by decide) rfl ?_
  refine ks_callV (n := 2) (M' := mX1_addNumber) (bf_number (d := d + 5) (v := lN 0) B10 (by decide) (by decide)) a3_10 cl_X1 rfl kx_828 kx_829 kx_830 kx_2 kx_831 (by decide +kernel) rfl (by decide) (Nat.le_of_ble_eq_true rfl) rfl dX11_draw_172 rfl (fun z11 T11 y11 => ?_)
  obtain ⟨rfl, w11, B11⟩ := y11
  have c0_11 := w11.at c0_10 (by decide)
  obtain ⟨l11, g11, -, -, -, a3_11, -⟩ := id B11
  refine ks_aload_n dX11_draw_175 rfl rfl ?_
  refine ks_getf (T := TX11) (kf := 1) kx_1054 rfl in_X11 cl_X11 (by decide) c0_11 rfl dX11_draw_176 rfl ?_
  refine ks_aload_n dX11_draw_179 rfl rfl ?_
  refine ks_getf (T := TX11) (kf := 12) kx_1065 rfl in_X11 cl_X11 (by decide) c0_11 rfl dX11_draw_180 rfl ?_
  refine ks_callV (n := 1) (M' := mX1_addCount) (bf_count (d := d + 5) (n := dc) B11 (by decide) (by omega)) a3_11 cl_X1 rfl kx_911 kx_868 kx_869 kx_2 kx_870 (by decide +kernel) rfl (by decide) (Nat.le_of_ble_eq_true rfl) rfl dX11_draw_183 rfl (fun z12 T12 y12 => ?_)
  obtain ⟨rfl, w12, B12⟩ := y12
  have c0_12 := w12.at c0_11 (by decide)
  obtain ⟨l12, g12, -, -, -, a3_12, -⟩ := id B12
  have ez : bytL gz 0 32 = bytL (drR 1 Ds dc) 0 32 := bytL_c (fun k hk => by rw [Nat.zero_add]; exact er2 k hk)
  have cl : (cntL dc).length = 1 := by unfold cntL; rw [if_pos (by omega)]; rfl
  rw [ez, bfA_ok (by rw [List.length_nil, numL_len]; decide), List.nil_append, bfA_ok (by rw [numL_len, bytL_len]; decide), bfA_ok (by rw [List.length_append, numL_len, bytL_len, bytL_len]; decide), bfA_ok (by rw [List.length_append, List.length_append, numL_len, bytL_len, bytL_len, numL_len]; decide), bfA_ok (by simp only [List.length_append, numL_len, bytL_len]; decide), bfA_ok (by simp only [List.length_append, numL_len, bytL_len]; decide), bfA_ok (by simp only [List.length_append, numL_len, bytL_len, cl]; decide)] at B12
  have epre : numL (lN 1) 4 ++ bytL gy 0 32 ++ bytL (drR 1 Ds dc) 0 32 ++ numL dt 4 ++ numL ((nI bt).toInt64) 4 ++ numL (lN 0) 4 ++ cntL dc = drH 1 (bytL gy 0 32) dt (nI bt) Ds dc ++ cntL dc := by rfl
  rw [epre] at B12
  have plen : (drH 1 (bytL gy 0 32) dt (nI bt) Ds dc ++ cntL dc).length = 81 := by rw [← epre]; simp only [List.length_append, numL_len, bytL_len, cl]
  have B13 : bfS T12 3 4 1600 (drC (drH 1 (bytL gy 0 32) dt (nI bt) Ds dc ++ cntL dc) Ds 0) := by
    unfold drC
    rw [show catT Ds 0 = [] from rfl, List.append_nil, if_pos (by rw [plen]; decide)]
    exact B12
  have w34 : ks_up S4 T12 [3, 4] := ((((((w5.mono (by decide)).trans (w6.mono (by decide))).trans (w7.mono (by decide))).trans (w8.mono (by decide))).trans (w9.mono (by decide))).trans (w10.mono (by decide))).trans ((w11.mono (by decide)).trans (w12.mono (by decide)))
  have u12 := u4.trans (w34.mono (L' := LDr) (by decide))
  have hh12 := hh4.up w34 (by decide)
  have W12 := W4.up w34 (by decide) (by decide)
  have e53d := w34.at e53c (by decide)
  have e54d := w34.at e54c (by decide)
  have D12 := hD.up u12 ldr_c
  have K12 := u12.st hK (by unfold ks_B; decide)
  have j0 : T12.2.2 0 = some (jdO dc dp dt rs) := u12.at h0 (by decide)
  refine ks_iconst (x := nI 0) dX11_draw_186 (by decide) rfl ?_
  refine ks_istore dX11_draw_187 (by decide) rfl ?_
  refine ks_sub [(4, _), (0, _), (1, _), (2, _), (3, _)] rfl ?_
  refine ks_sub [(0, _), (1, _), (2, _), (3, _), (4, _)] rfl (l_drLoop (d := d) (dp := dp) (rs := rs) (pre := drH 1 (bytL gy 0 32) dt (nI bt) Ds dc ++ cntL dc) j0 D12 hdc K12 (fun S9 u9 W9 B9 => ?_) dc 0 T12 (by omega) (ks_up.rf _ _) ⟨_, W12⟩ B13)
  exact ⟨rfl, u12.trans (u9.mono (by decide)), hh12.up u9 (by decide), W9, ⟨_, kgi, u9.at e53d (by decide)⟩, ⟨_, k54c, u9.at e54d (by decide)⟩, B9⟩
set_option maxRecDepth 100000 in
set_option maxHeartbeats 800000 in
theorem c_jd_draw2 {l : Launch} {G : ks_G} {d : Nat} {S : ks_S} {dc dp y bt : Nat} {dt : Int64} {rs : Int32} {Ds : Nat → dTx} {gi0 gr0 gy : Nat → Nat} {od ow : Option (List Nat)} (h0 : S.2.2 0 = some (jdO dc dp dt rs)) (hD : dfS S Ds) (hdc : dc ≤ 12) (hK : ks_stOK S) (hh : hsO S) (hw : bfS S 5 6 8000 ow) (hd : bfS S 3 4 1600 od) (h53 : S.2.2 53 = some (kB 384 gi0)) (kg0 : kO gi0) (h54 : S.2.2 54 = some (kB 32 gr0)) (kr0 : kO gr0) (h55 : S.2.2 55 = some (kB 32 (fun _ => 0))) (hy : S.2.2 y = some (kB 32 gy)) (kgy : kO gy) (hy55 : 55 ≤ y) : ks_P l G yX11_draw mX11_draw (d + 6) [.ref 0, .int (nI 2), .ref y, .int (nI bt)] S (fun z S' => z = none ∧ ks_up S S' LDr ∧ hsO S' ∧ (∃ ow, bfS S' 5 6 8000 ow) ∧ (∃ g, kO g ∧ S'.2.2 53 = some (kB 384 g)) ∧ (∃ g, kO g ∧ S'.2.2 54 = some (kB 32 g)) ∧ bfS S' 3 4 1600 (drC (drH 2 (bytL gy 0 32) dt (nI bt) Ds dc ++ cntL dc) Ds dc)) := by
  refine ks_of (by decide) rfl rfl (Nat.le_of_ble_eq_true rfl) ?_
  show ks_X l G mX11_draw (d + 6) 0 [(0, .ref 0), (1, .int (nI 2)), (2, .ref y), (3, .int (nI bt))] [] S _
  refine ks_iconst (x := nI 0) dX11_draw_0 (by decide) rfl ?_
  refine ks_istore dX11_draw_1 (by decide) rfl ?_
  refine ks_sub [(4, _), (0, _), (1, _), (2, _), (3, _)] rfl ?_
  refine ks_sub [(0, _), (1, _), (2, _), (3, _), (4, _)] rfl (l_drNames h0 hD hdc hK (fun S2 gi u2 hh2 ⟨ow2, W2⟩ e53 kgi hgi => ?_) dc 0 S gi0 (by omega) (ks_up.rf _ _) hh ⟨ow, hw⟩ h53 kg0 (fun j hj => absurd hj (by omega)))
  have ny : ∀ L : List Nat, (∀ x ∈ L, x < 55) → y ∉ L := fun L hL hx => by have := hL y hx; omega
  have a0 : S2.2.2 0 = some (.inr (14, [.ref 1, .ref 3, .ref 5, .ref 7, .ref 14, .ref 20, .ref 27, .ref 41, .ref 52, .ref 53, .ref 54, .ref 55, .int (nI dc), .int (nI dp), .long dt, .int rs])) := u2.at h0 (by decide)
  have K2 := u2.st hK (by unfold ks_B; decide)
  have e54x : ∃ gr, kO gr ∧ S2.2.2 54 = some (kB 32 gr) := ⟨_, kr0, u2.at h54 (by decide)⟩
  obtain ⟨gr, kgr, e54⟩ := e54x
  have B2 : ∃ o3, bfS S2 3 4 1600 o3 := ⟨_, hd.up u2 (by decide) (by decide)⟩
  obtain ⟨o3, B2⟩ := B2
  have O7 := hh2.1
  refine ks_aload_n dX11_draw_33 rfl rfl ?_
  refine ks_getf (T := TX11) (kf := 3) kx_1056 rfl in_X11 cl_X11 (by decide) a0 rfl dX11_draw_34 rfl ?_
  refine ks_aload_n dX11_draw_37 rfl rfl ?_
  refine ks_getf (T := TX11) (kf := 9) kx_1062 rfl in_X11 cl_X11 (by decide) a0 rfl dX11_draw_38 rfl ?_
  refine ks_aload_n dX11_draw_41 rfl rfl ?_
  refine ks_getf (T := TX11) (kf := 12) kx_1065 rfl in_X11 cl_X11 (by decide) a0 rfl dX11_draw_42 rfl ?_
  refine ks_aload_n dX11_draw_45 rfl rfl ?_
  refine ks_getf (T := TX11) (kf := 10) kx_1063 rfl in_X11 cl_X11 (by decide) a0 rfl dX11_draw_46 rfl ?_
  refine ks_callV (n := 3) (M' := mX6_root) (c_root (d := d) hh2 hs_neO K2 e53 kgi hdc (by omega) (by decide) e54 kgr (by decide) (by decide) (by decide) (by decide) (by decide) (by decide)) O7 cl_X6 rfl kx_904 kx_905 kx_906 kx_3 kx_907 (by decide +kernel) rfl (by decide) (Nat.le_of_ble_eq_true rfl) rfl dX11_draw_49 rfl (fun z3 T3 y3 => ?_)
  obtain ⟨rfl, w3, hh3, e54b⟩ := y3
  have u3 := (u2.mono (L' := LDr) (by decide)).trans (w3.mono (L' := LDr) (by decide))
  have b0 := w3.at a0 (by decide)
  have e53b := w3.at e53 (by decide)
  have B3 := B2.up w3 (by decide) (by decide)
  have W3 := W2.up w3 (by decide) (by decide)
  have K3 := w3.st K2 (by unfold ks_B; decide)
  have k54 : kO (ks_pt (root_ gi dc) gr 0 32) := kO_pt (kO_root kgi dc) kgr 0 32
  have er : ∀ j, j < 32 → ks_pt (root_ gi dc) gr 0 32 j = root_ (idG Ds) dc j := fun j hj => by
    have e1 := ks_pt_in (root_ gi dc) gr 0 32 hj
    rw [Nat.zero_add] at e1
    rw [e1]
    exact root_c hgi j hj
  generalize ks_pt (root_ gi dc) gr 0 32 = gq at *
  refine ks_iload_n dX11_draw_52 rfl rfl ?_
  refine ks_iconst (x := nI 1) dX11_draw_53 (by decide) rfl ?_
  refine ks_icmp_neN (tgt := 68) (by decide) (by decide) dX11_draw_54 (by decide) rfl (fun _ => ?_) (fun h => absurd h (by decide))
  obtain ⟨S4, hS4⟩ : ∃ S4, S4 = T3 := ⟨_, rfl⟩
  refine ks_tS (S' := S4) hS4.symm ?_
  have w4 : ks_up T3 S4 [54] := by rw [hS4]; exact ks_up.rf _ _
  have e54c : S4.2.2 54 = some (kB 32 gq) := by rw [hS4]; exact e54b
  have k54c := k54
  have er2 : ∀ j, j < 32 → gq j = drR 2 Ds dc j := fun j hj => by
    unfold drR
    rw [if_neg (fun h => absurd h.1 (by decide))]
    exact er j hj
  have u4 := u3.trans (w4.mono (L' := LDr) (by decide))
  have c0 := w4.at b0 (by decide)
  have hh4 := hh3.up w4 (by decide)
  have e53c := w4.at e53b (by decide)
  have B4 := B3.up w4 (by decide) (by decide)
  have W4 := W3.up w4 (by decide) (by decide)
  obtain ⟨gz, hgz⟩ : ∃ g, g = gq := ⟨_, rfl⟩
  rw [← hgz] at e54c k54c er2
  obtain ⟨l3, g3, -, -, -, a3, -⟩ := id B4
  refine ks_aload_n dX11_draw_68 rfl rfl ?_
  refine ks_getf (T := TX11) (kf := 1) kx_1054 rfl in_X11 cl_X11 (by decide) c0 rfl dX11_draw_69 rfl ?_
  refine ks_callV (n := 0) (M' := mX1_clear) (bf_clear (d := d + 5) B4) a3 cl_X1 rfl kx_842 kx_843 kx_844 kx_2 kx_845 (by decide +kernel) rfl (by decide) (Nat.le_of_ble_eq_true rfl) rfl dX11_draw_72 rfl (fun z5 T5 y5 => ?_)
  obtain ⟨rfl, w5, B5⟩ := y5
  have c0_5 := w5.at c0 (by decide)
  obtain ⟨l5, g5, -, -, -, a3_5, -⟩ := id B5
  refine ks_aload_n dX11_draw_75 rfl rfl ?_
  refine ks_getf (T := TX11) (kf := 1) kx_1054 rfl in_X11 cl_X11 (by decide) c0_5 rfl dX11_draw_76 rfl ?_
  refine ks_iload_n dX11_draw_79 rfl rfl ?_
  refine ks_iconst (x := nI 4) dX11_draw_80 (by decide) rfl ?_
  refine ks_icmp_neN (tgt := 90) (by decide) (by decide) dX11_draw_81 (by decide) rfl (fun _ => ?_) (fun h => absurd h (by decide))
  refine ks_lconst (x := lN 1) dX11_draw_90 (by decide) rfl ?_
  refine ks_iconst (x := nI 4) dX11_draw_91 (by decide) rfl ?_
  refine ks_callV (n := 2) (M' := mX1_addNumber) (bf_number (d := d + 5) (v := lN 1) B5 (by decide) (by decide)) a3_5 cl_X1 rfl kx_828 kx_829 kx_830 kx_2 kx_831 (by decide +kernel) rfl (by decide) (Nat.le_of_ble_eq_true rfl) rfl dX11_draw_92 rfl (fun z6 T6 y6 => ?_)
  obtain ⟨rfl, w6, B6⟩ := y6
  have c0_6 := w6.at c0_5 (by decide)
  obtain ⟨l6, g6, -, -, -, a3_6, -⟩ := id B6
  refine ks_aload_n dX11_draw_95 rfl rfl ?_
  refine ks_getf (T := TX11) (kf := 1) kx_1054 rfl in_X11 cl_X11 (by decide) c0_6 rfl dX11_draw_96 rfl ?_
  refine ks_iload_n dX11_draw_99 rfl rfl ?_
  refine ks_iconst (x := nI 5) dX11_draw_100 (by decide) rfl ?_
  refine ks_icmp_neN (tgt := 111) (by decide) (by decide) dX11_draw_101 (by decide) rfl (fun _ => ?_) (fun h => absurd h (by decide))
  refine ks_aload_n dX11_draw_111 rfl rfl ?_
  refine ks_iconst (x := nI 0) dX11_draw_112 (by decide) rfl ?_
  refine ks_bipush (x := nI 32) dX11_draw_113 (by decide) rfl ?_
  have hz6 : T6.2.2 y = some (kB 32 gy) := (w6.at (w5.at (w4.at (w3.at (u2.at hy (ny _ (by decide))) (ny _ (by decide))) (ny _ (by decide))) (ny _ (by decide))) (ny _ (by decide)))
  refine ks_callV (n := 3) (M' := mX1_addBytes) (bf_bytes (d := d + 4) (i := 0) (n := 32) B6 (by decide) hz6 kgy (by decide) (by decide)) a3_6 cl_X1 rfl kx_910 kx_872 kx_873 kx_2 kx_874 (by decide +kernel) rfl (by decide) (Nat.le_of_ble_eq_true rfl) rfl dX11_draw_115 rfl (fun z7 T7 y7 => ?_)
  obtain ⟨rfl, w7, B7⟩ := y7
  have c0_7 := w7.at c0_6 (by decide)
  obtain ⟨l7, g7, -, -, -, a3_7, -⟩ := id B7
  have hz7 : T7.2.2 54 = some (kB 32 gz) := w7.at (w6.at (w5.at e54c (by decide)) (by decide)) (by decide)
  refine ks_aload_n dX11_draw_118 rfl rfl ?_
  refine ks_getf (T := TX11) (kf := 1) kx_1054 rfl in_X11 cl_X11 (by decide) c0_7 rfl dX11_draw_119 rfl ?_
  refine ks_aload_n dX11_draw_122 rfl rfl ?_
  refine ks_getf (T := TX11) (kf := 10) kx_1063 rfl in_X11 cl_X11 (by decide) c0_7 rfl dX11_draw_123 rfl ?_
  refine ks_iconst (x := nI 0) dX11_draw_126 (by decide) rfl ?_
  refine ks_bipush (x := nI 32) dX11_draw_127 (by decide) rfl ?_
  refine ks_callV (n := 3) (M' := mX1_addBytes) (bf_bytes (d := d + 4) (i := 0) (n := 32) B7 (by decide) hz7 k54c (by decide) (by decide)) a3_7 cl_X1 rfl kx_910 kx_872 kx_873 kx_2 kx_874 (by decide +kernel) rfl (by decide) (Nat.le_of_ble_eq_true rfl) rfl dX11_draw_129 rfl (fun z8 T8 y8 => ?_)
  obtain ⟨rfl, w8, B8⟩ := y8
  have c0_8 := w8.at c0_7 (by decide)
  obtain ⟨l8, g8, -, -, -, a3_8, -⟩ := id B8
  refine ks_aload_n dX11_draw_132 rfl rfl ?_
  refine ks_getf (T := TX11) (kf := 1) kx_1054 rfl in_X11 cl_X11 (by decide) c0_8 rfl dX11_draw_133 rfl ?_
  refine ks_aload_n dX11_draw_136 rfl rfl ?_
  refine ks_getf (T := TX11) (kf := 14) kx_1067 rfl in_X11 cl_X11 (by decide) c0_8 rfl dX11_draw_137 rfl ?_
  refine ks_iconst (x := nI 4) dX11_draw_140 (by decide) rfl ?_
  refine ks_callV (n := 2) (M' := mX1_addNumber) (bf_number (d := d + 5) (v := dt) B8 (by decide) (by decide)) a3_8 cl_X1 rfl kx_828 kx_829 kx_830 kx_2 kx_831 (by decide +kernel) rfl (by decide) (Nat.le_of_ble_eq_true rfl) rfl dX11_draw_141 rfl (fun z9 T9 y9 => ?_)
  obtain ⟨rfl, w9, B9⟩ := y9
  have c0_9 := w9.at c0_8 (by decide)
  obtain ⟨l9, g9, -, -, -, a3_9, -⟩ := id B9
  refine ks_aload_n dX11_draw_144 rfl rfl ?_
  refine ks_getf (T := TX11) (kf := 1) kx_1054 rfl in_X11 cl_X11 (by decide) c0_9 rfl dX11_draw_145 rfl ?_
  refine ks_iload_n dX11_draw_148 rfl rfl ?_
  refine ks_iconst (x := nI 2) dX11_draw_149 (by decide) rfl ?_
  refine ks_icmp_neN (tgt := 160) (by decide) (by decide) dX11_draw_150 (by decide) rfl (fun h => absurd h (by decide)) (fun _ => ?_)
  refine ks_iload_n dX11_draw_153 rfl rfl ?_
  refine ks_iconst (x := nI 1) dX11_draw_154 (by decide) rfl ?_
  refine ks_isub dX11_draw_155 rfl ?_
  refine ks_ti (y := nI bt - 1) rfl ?_
  refine ks_i2l dX11_draw_156 rfl ?_
  refine ks_goto (tgt := 162) dX11_draw_157 (by decide) ?_
  refine ks_iconst (x := nI 4) dX11_draw_162 (by decide) rfl ?_
  refine ks_callV (n := 2) (M' := mX1_addNumber) (bf_number (d := d + 5) (v := (nI bt - 1).toInt64) B9 (by decide) (by decide)) a3_9 cl_X1 rfl kx_828 kx_829 kx_830 kx_2 kx_831 (by decide +kernel) rfl (by decide) (Nat.le_of_ble_eq_true rfl) rfl dX11_draw_163 rfl (fun z10 T10 y10 => ?_)
  obtain ⟨rfl, w10, B10⟩ := y10
  have c0_10 := w10.at c0_9 (by decide)
  obtain ⟨l10, g10, -, -, -, a3_10, -⟩ := id B10
  refine ks_aload_n dX11_draw_166 rfl rfl ?_
  refine ks_getf (T := TX11) (kf := 1) kx_1054 rfl in_X11 cl_X11 (by decide) c0_10 rfl dX11_draw_167 rfl ?_
  refine ks_lconst (x := lN 0) dX11_draw_170 (by decide) rfl ?_
  refine ks_iconst (x := nI 4) dX11_draw_171 (by decide) rfl ?_
  refine ks_callV (n := 2) (M' := mX1_addNumber) (bf_number (d := d + 5) (v := lN 0) B10 (by decide) (by decide)) a3_10 cl_X1 rfl kx_828 kx_829 kx_830 kx_2 kx_831 (by decide +kernel) rfl (by decide) (Nat.le_of_ble_eq_true rfl) rfl dX11_draw_172 rfl (fun z11 T11 y11 => ?_)
  obtain ⟨rfl, w11, B11⟩ := y11
  have c0_11 := w11.at c0_10 (by decide)
  obtain ⟨l11, g11, -, -, -, a3_11, -⟩ := id B11
  refine ks_aload_n dX11_draw_175 rfl rfl ?_
  refine ks_getf (T := TX11) (kf := 1) kx_1054 rfl in_X11 cl_X11 (by decide) c0_11 rfl dX11_draw_176 rfl ?_
  refine ks_aload_n dX11_draw_179 rfl rfl ?_
  refine ks_getf (T := TX11) (kf := 12) kx_1065 rfl in_X11 cl_X11 (by decide) c0_11 rfl dX11_draw_180 rfl ?_
  refine ks_callV (n := 1) (M' := mX1_addCount) (bf_count (d := d + 5) (n := dc) B11 (by decide) (by omega)) a3_11 cl_X1 rfl kx_911 kx_868 kx_869 kx_2 kx_870 (by decide +kernel) rfl (by decide) (Nat.le_of_ble_eq_true rfl) rfl dX11_draw_183 rfl (fun z12 T12 y12 => ?_)
  obtain ⟨rfl, w12, B12⟩ := y12
  have c0_12 := w12.at c0_11 (by decide)
  obtain ⟨l12, g12, -, -, -, a3_12, -⟩ := id B12
  have ez : bytL gz 0 32 = bytL (drR 2 Ds dc) 0 32 := bytL_c (fun k hk => by rw [Nat.zero_add]; exact er2 k hk)
  have cl : (cntL dc).length = 1 := by unfold cntL; rw [if_pos (by omega)]; rfl
  rw [ez, bfA_ok (by rw [List.length_nil, numL_len]; decide), List.nil_append, bfA_ok (by rw [numL_len, bytL_len]; decide), bfA_ok (by rw [List.length_append, numL_len, bytL_len, bytL_len]; decide), bfA_ok (by rw [List.length_append, List.length_append, numL_len, bytL_len, bytL_len, numL_len]; decide), bfA_ok (by simp only [List.length_append, numL_len, bytL_len]; decide), bfA_ok (by simp only [List.length_append, numL_len, bytL_len]; decide), bfA_ok (by simp only [List.length_append, numL_len, bytL_len, cl]; decide)] at B12
  have epre : numL (lN 1) 4 ++ bytL gy 0 32 ++ bytL (drR 2 Ds dc) 0 32 ++ numL dt 4 ++ numL ((nI bt - 1).toInt64) 4 ++ numL (lN 0) 4 ++ cntL dc = drH 2 (bytL gy 0 32) dt (nI bt) Ds dc ++ cntL dc := by rfl
  rw [epre] at B12
  have plen : (drH 2 (bytL gy 0 32) dt (nI bt) Ds dc ++ cntL dc).length = 81 := by rw [← epre]; simp only [List.length_append, numL_len, bytL_len, cl]
  have B13 : bfS T12 3 4 1600 (drC (drH 2 (bytL gy 0 32) dt (nI bt) Ds dc ++ cntL dc) Ds 0) := by
    unfold drC
    rw [show catT Ds 0 = [] from rfl, List.append_nil, if_pos (by rw [plen]; decide)]
    exact B12
  have w34 : ks_up S4 T12 [3, 4] := ((((((w5.mono (by decide)).trans (w6.mono (by decide))).trans (w7.mono (by decide))).trans (w8.mono (by decide))).trans (w9.mono (by decide))).trans (w10.mono (by decide))).trans ((w11.mono (by decide)).trans (w12.mono (by decide)))
  have u12 := u4.trans (w34.mono (L' := LDr) (by decide))
  have hh12 := hh4.up w34 (by decide)
  have W12 := W4.up w34 (by decide) (by decide)
  have e53d := w34.at e53c (by decide)
  have e54d := w34.at e54c (by decide)
  have D12 := hD.up u12 ldr_c
  have K12 := u12.st hK (by unfold ks_B; decide)
  have j0 : T12.2.2 0 = some (jdO dc dp dt rs) := u12.at h0 (by decide)
  refine ks_iconst (x := nI 0) dX11_draw_186 (by decide) rfl ?_
  refine ks_istore dX11_draw_187 (by decide) rfl ?_
  refine ks_sub [(4, _), (0, _), (1, _), (2, _), (3, _)] rfl ?_
  refine ks_sub [(0, _), (1, _), (2, _), (3, _), (4, _)] rfl (l_drLoop (d := d) (dp := dp) (rs := rs) (pre := drH 2 (bytL gy 0 32) dt (nI bt) Ds dc ++ cntL dc) j0 D12 hdc K12 (fun S9 u9 W9 B9 => ?_) dc 0 T12 (by omega) (ks_up.rf _ _) ⟨_, W12⟩ B13)
  exact ⟨rfl, u12.trans (u9.mono (by decide)), hh12.up u9 (by decide), W9, ⟨_, kgi, u9.at e53d (by decide)⟩, ⟨_, k54c, u9.at e54d (by decide)⟩, B9⟩
set_option maxRecDepth 100000 in
set_option maxHeartbeats 800000 in
theorem c_jd_draw3 {l : Launch} {G : ks_G} {d : Nat} {S : ks_S} {dc dp y bt : Nat} {dt : Int64} {rs : Int32} {Ds : Nat → dTx} {gi0 gr0 gy : Nat → Nat} {od ow : Option (List Nat)} (h0 : S.2.2 0 = some (jdO dc dp dt rs)) (hD : dfS S Ds) (hdc : dc ≤ 12) (hK : ks_stOK S) (hh : hsO S) (hw : bfS S 5 6 8000 ow) (hd : bfS S 3 4 1600 od) (h53 : S.2.2 53 = some (kB 384 gi0)) (kg0 : kO gi0) (h54 : S.2.2 54 = some (kB 32 gr0)) (kr0 : kO gr0) (h55 : S.2.2 55 = some (kB 32 (fun _ => 0))) (hy : S.2.2 y = some (kB 32 gy)) (kgy : kO gy) (hy55 : 55 ≤ y) : ks_P l G yX11_draw mX11_draw (d + 6) [.ref 0, .int (nI 3), .ref y, .int (nI bt)] S (fun z S' => z = none ∧ ks_up S S' LDr ∧ hsO S' ∧ (∃ ow, bfS S' 5 6 8000 ow) ∧ (∃ g, kO g ∧ S'.2.2 53 = some (kB 384 g)) ∧ (∃ g, kO g ∧ S'.2.2 54 = some (kB 32 g)) ∧ bfS S' 3 4 1600 (drC (drH 3 (bytL gy 0 32) dt (nI bt) Ds dc ++ cntL dc) Ds dc)) := by
  refine ks_of (by decide) rfl rfl (Nat.le_of_ble_eq_true rfl) ?_
  show ks_X l G mX11_draw (d + 6) 0 [(0, .ref 0), (1, .int (nI 3)), (2, .ref y), (3, .int (nI bt))] [] S _
  refine ks_iconst (x := nI 0) dX11_draw_0 (by decide) rfl ?_
  refine ks_istore dX11_draw_1 (by decide) rfl ?_
  refine ks_sub [(4, _), (0, _), (1, _), (2, _), (3, _)] rfl ?_
  refine ks_sub [(0, _), (1, _), (2, _), (3, _), (4, _)] rfl (l_drNames h0 hD hdc hK (fun S2 gi u2 hh2 ⟨ow2, W2⟩ e53 kgi hgi => ?_) dc 0 S gi0 (by omega) (ks_up.rf _ _) hh ⟨ow, hw⟩ h53 kg0 (fun j hj => absurd hj (by omega)))
  have ny : ∀ L : List Nat, (∀ x ∈ L, x < 55) → y ∉ L := fun L hL hx => by have := hL y hx; omega
  have a0 : S2.2.2 0 = some (.inr (14, [.ref 1, .ref 3, .ref 5, .ref 7, .ref 14, .ref 20, .ref 27, .ref 41, .ref 52, .ref 53, .ref 54, .ref 55, .int (nI dc), .int (nI dp), .long dt, .int rs])) := u2.at h0 (by decide)
  have K2 := u2.st hK (by unfold ks_B; decide)
  have e54x : ∃ gr, kO gr ∧ S2.2.2 54 = some (kB 32 gr) := ⟨_, kr0, u2.at h54 (by decide)⟩
  obtain ⟨gr, kgr, e54⟩ := e54x
  have B2 : ∃ o3, bfS S2 3 4 1600 o3 := ⟨_, hd.up u2 (by decide) (by decide)⟩
  obtain ⟨o3, B2⟩ := B2
  have O7 := hh2.1
  refine ks_aload_n dX11_draw_33 rfl rfl ?_
  refine ks_getf (T := TX11) (kf := 3) kx_1056 rfl in_X11 cl_X11 (by decide) a0 rfl dX11_draw_34 rfl ?_
  refine ks_aload_n dX11_draw_37 rfl rfl ?_
  refine ks_getf (T := TX11) (kf := 9) kx_1062 rfl in_X11 cl_X11 (by decide) a0 rfl dX11_draw_38 rfl ?_
  refine ks_aload_n dX11_draw_41 rfl rfl ?_
  refine ks_getf (T := TX11) (kf := 12) kx_1065 rfl in_X11 cl_X11 (by decide) a0 rfl dX11_draw_42 rfl ?_
  refine ks_aload_n dX11_draw_45 rfl rfl ?_
  refine ks_getf (T := TX11) (kf := 10) kx_1063 rfl in_X11 cl_X11 (by decide) a0 rfl dX11_draw_46 rfl ?_
  refine ks_callV (n := 3) (M' := mX6_root) (c_root (d := d) hh2 hs_neO K2 e53 kgi hdc (by omega) (by decide) e54 kgr (by decide) (by decide) (by decide) (by decide) (by decide) (by decide)) O7 cl_X6 rfl kx_904 kx_905 kx_906 kx_3 kx_907 (by decide +kernel) rfl (by decide) (Nat.le_of_ble_eq_true rfl) rfl dX11_draw_49 rfl (fun z3 T3 y3 => ?_)
  obtain ⟨rfl, w3, hh3, e54b⟩ := y3
  have u3 := (u2.mono (L' := LDr) (by decide)).trans (w3.mono (L' := LDr) (by decide))
  have b0 := w3.at a0 (by decide)
  have e53b := w3.at e53 (by decide)
  have B3 := B2.up w3 (by decide) (by decide)
  have W3 := W2.up w3 (by decide) (by decide)
  have K3 := w3.st K2 (by unfold ks_B; decide)
  have k54 : kO (ks_pt (root_ gi dc) gr 0 32) := kO_pt (kO_root kgi dc) kgr 0 32
  have er : ∀ j, j < 32 → ks_pt (root_ gi dc) gr 0 32 j = root_ (idG Ds) dc j := fun j hj => by
    have e1 := ks_pt_in (root_ gi dc) gr 0 32 hj
    rw [Nat.zero_add] at e1
    rw [e1]
    exact root_c hgi j hj
  generalize ks_pt (root_ gi dc) gr 0 32 = gq at *
  refine ks_iload_n dX11_draw_52 rfl rfl ?_
  refine ks_iconst (x := nI 1) dX11_draw_53 (by decide) rfl ?_
  refine ks_icmp_neN (tgt := 68) (by decide) (by decide) dX11_draw_54 (by decide) rfl (fun _ => ?_) (fun h => absurd h (by decide))
  obtain ⟨S4, hS4⟩ : ∃ S4, S4 = T3 := ⟨_, rfl⟩
  refine ks_tS (S' := S4) hS4.symm ?_
  have w4 : ks_up T3 S4 [54] := by rw [hS4]; exact ks_up.rf _ _
  have e54c : S4.2.2 54 = some (kB 32 gq) := by rw [hS4]; exact e54b
  have k54c := k54
  have er2 : ∀ j, j < 32 → gq j = drR 3 Ds dc j := fun j hj => by
    unfold drR
    rw [if_neg (fun h => absurd h.1 (by decide))]
    exact er j hj
  have u4 := u3.trans (w4.mono (L' := LDr) (by decide))
  have c0 := w4.at b0 (by decide)
  have hh4 := hh3.up w4 (by decide)
  have e53c := w4.at e53b (by decide)
  have B4 := B3.up w4 (by decide) (by decide)
  have W4 := W3.up w4 (by decide) (by decide)
  obtain ⟨gz, hgz⟩ : ∃ g, g = gq := ⟨_, rfl⟩
  rw [← hgz] at e54c k54c er2
  obtain ⟨l3, g3, -, -, -, a3, -⟩ := id B4
  refine ks_aload_n dX11_draw_68 rfl rfl ?_
  refine ks_getf (T := TX11) (kf := 1) kx_1054 rfl in_X11 cl_X11 (by decide) c0 rfl dX11_draw_69 rfl ?_
  refine ks_callV (n := 0) (M' := mX1_clear) (bf_clear (d := d + 5) B4) a3 cl_X1 rfl kx_842 kx_843 kx_844 kx_2 kx_845 (by decide +kernel) rfl (by decide) (Nat.le_of_ble_eq_true rfl) rfl dX11_draw_72 rfl (fun z5 T5 y5 => ?_)
  obtain ⟨rfl, w5, B5⟩ := y5
  have c0_5 := w5.at c0 (by decide)
  obtain ⟨l5, g5, -, -, -, a3_5, -⟩ := id B5
  refine ks_aload_n dX11_draw_75 rfl rfl ?_
  refine ks_getf (T := TX11) (kf := 1) kx_1054 rfl in_X11 cl_X11 (by decide) c0_5 rfl dX11_draw_76 rfl ?_
  refine ks_iload_n dX11_draw_79 rfl rfl ?_
  refine ks_iconst (x := nI 4) dX11_draw_80 (by decide) rfl ?_
  refine ks_icmp_neN (tgt := 90) (by decide) (by decide) dX11_draw_81 (by decide) rfl (fun _ => ?_) (fun h => absurd h (by decide))
  refine ks_lconst (x := lN 1) dX11_draw_90 (by decide) rfl ?_
  refine ks_iconst (x := nI 4) dX11_draw_91 (by decide) rfl ?_
  refine ks_callV (n := 2) (M' := mX1_addNumber) (bf_number (d := d + 5) (v := lN 1) B5 (by decide) (by decide)) a3_5 cl_X1 rfl kx_828 kx_829 kx_830 kx_2 kx_831 (by decide +kernel) rfl (by decide) (Nat.le_of_ble_eq_true rfl) rfl dX11_draw_92 rfl (fun z6 T6 y6 => ?_)
  obtain ⟨rfl, w6, B6⟩ := y6
  have c0_6 := w6.at c0_5 (by decide)
  obtain ⟨l6, g6, -, -, -, a3_6, -⟩ := id B6
  refine ks_aload_n dX11_draw_95 rfl rfl ?_
  refine ks_getf (T := TX11) (kf := 1) kx_1054 rfl in_X11 cl_X11 (by decide) c0_6 rfl dX11_draw_96 rfl ?_
  refine ks_iload_n dX11_draw_99 rfl rfl ?_
  refine ks_iconst (x := nI 5) dX11_draw_100 (by decide) rfl ?_
  refine ks_icmp_neN (tgt := 111) (by decide) (by decide) dX11_draw_101 (by decide) rfl (fun _ => ?_) (fun h => absurd h (by decide))
  refine ks_aload_n dX11_draw_111 rfl rfl ?_
  refine ks_iconst (x := nI 0) dX11_draw_112 (by decide) rfl ?_
  refine ks_bipush (x := nI 32) dX11_draw_113 (by decide) rfl ?_
  have hz6 : T6.2.2 y = some (kB 32 gy) := (w6.at (w5.at (w4.at (w3.at (u2.at hy (ny _ (by decide))) (ny _ (by decide))) (ny _ (by decide))) (ny _ (by decide))) (ny _ (by decide)))
  refine ks_callV (n := 3) (M' := mX1_addBytes) (bf_bytes (d := d + 4) (i := 0) (n := 32) B6 (by decide) hz6 kgy (by decide) (by decide)) a3_6 cl_X1 rfl kx_910 kx_872 kx_873 kx_2 kx_874 (by decide +kernel) rfl (by decide) (Nat.le_of_ble_eq_true rfl) rfl dX11_draw_115 rfl (fun z7 T7 y7 => ?_)
  obtain ⟨rfl, w7, B7⟩ := y7
  have c0_7 := w7.at c0_6 (by decide)
  obtain ⟨l7, g7, -, -, -, a3_7, -⟩ := id B7
  have hz7 : T7.2.2 54 = some (kB 32 gz) := w7.at (w6.at (w5.at e54c (by decide)) (by decide)) (by decide)
  refine ks_aload_n dX11_draw_118 rfl rfl ?_
  refine ks_getf (T := TX11) (kf := 1) kx_1054 rfl in_X11 cl_X11 (by decide) c0_7 rfl dX11_draw_119 rfl ?_
  refine ks_aload_n dX11_draw_122 rfl rfl ?_
  refine ks_getf (T := TX11) (kf := 10) kx_1063 rfl in_X11 cl_X11 (by decide) c0_7 rfl dX11_draw_123 rfl ?_
  refine ks_iconst (x := nI 0) dX11_draw_126 (by decide) rfl ?_
  refine ks_bipush (x := nI 32) dX11_draw_127 (by decide) rfl ?_
  refine ks_callV (n := 3) (M' := mX1_addBytes) (bf_bytes (d := d + 4) (i := 0) (n := 32) B7 (by decide) hz7 k54c (by decide) (by decide)) a3_7 cl_X1 rfl kx_910 kx_872 kx_873 kx_2 kx_874 (by decide +kernel) rfl (by decide) (Nat.le_of_ble_eq_true rfl) rfl dX11_draw_129 rfl (fun z8 T8 y8 => ?_)
  obtain ⟨rfl, w8, B8⟩ := y8
  have c0_8 := w8.at c0_7 (by decide)
  obtain ⟨l8, g8, -, -, -, a3_8, -⟩ := id B8
  refine ks_aload_n dX11_draw_132 rfl rfl ?_
  refine ks_getf (T := TX11) (kf := 1) kx_1054 rfl in_X11 cl_X11 (by decide) c0_8 rfl dX11_draw_133 rfl ?_
  refine ks_aload_n dX11_draw_136 rfl rfl ?_
  refine ks_getf (T := TX11) (kf := 14) kx_1067 rfl in_X11 cl_X11 (by decide) c0_8 rfl dX11_draw_137 rfl ?_
  refine ks_iconst (x := nI 4) dX11_draw_140 (by decide) rfl ?_
  refine ks_callV (n := 2) (M' := mX1_addNumber) (bf_number (d := d + 5) (v := dt) B8 (by decide) (by decide)) a3_8 cl_X1 rfl kx_828 kx_829 kx_830 kx_2 kx_831 (by decide +kernel) rfl (by decide) (Nat.le_of_ble_eq_true rfl) rfl dX11_draw_141 rfl (fun z9 T9 y9 => ?_)
  obtain ⟨rfl, w9, B9⟩ := y9
  have c0_9 := w9.at c0_8 (by decide)
  obtain ⟨l9, g9, -, -, -, a3_9, -⟩ := id B9
  refine ks_aload_n dX11_draw_144 rfl rfl ?_
  refine ks_getf (T := TX11) (kf := 1) kx_1054 rfl in_X11 cl_X11 (by decide) c0_9 rfl dX11_draw_145 rfl ?_
  refine ks_iload_n dX11_draw_148 rfl rfl ?_
  refine ks_iconst (x := nI 2) dX11_draw_149 (by decide) rfl ?_
  refine ks_icmp_neN (tgt := 160) (by decide) (by decide) dX11_draw_150 (by decide) rfl (fun _ => ?_) (fun h => absurd h (by decide))
  refine ks_iload_n dX11_draw_160 rfl rfl ?_
  refine ks_i2l dX11_draw_161 rfl ?_
  refine ks_iconst (x := nI 4) dX11_draw_162 (by decide) rfl ?_
  refine ks_callV (n := 2) (M' := mX1_addNumber) (bf_number (d := d + 5) (v := (nI bt).toInt64) B9 (by decide) (by decide)) a3_9 cl_X1 rfl kx_828 kx_829 kx_830 kx_2 kx_831 (by decide +kernel) rfl (by decide) (Nat.le_of_ble_eq_true rfl) rfl dX11_draw_163 rfl (fun z10 T10 y10 => ?_)
  obtain ⟨rfl, w10, B10⟩ := y10
  have c0_10 := w10.at c0_9 (by decide)
  obtain ⟨l10, g10, -, -, -, a3_10, -⟩ := id B10
  refine ks_aload_n dX11_draw_166 rfl rfl ?_
  refine ks_getf (T := TX11) (kf := 1) kx_1054 rfl in_X11 cl_X11 (by decide) c0_10 rfl dX11_draw_167 rfl ?_
  refine ks_lconst (x := lN 0) dX11_draw_170 (by decide) rfl ?_
  refine ks_iconst (x := nI 4) dX11_draw_171 (by decide) rfl ?_
  refine ks_callV (n := 2) (M' := mX1_addNumber) (bf_number (d := d + 5) (v := lN 0) B10 (by decide) (by decide)) a3_10 cl_X1 rfl kx_828 kx_829 kx_830 kx_2 kx_831 (by decide +kernel) rfl (by decide) (Nat.le_of_ble_eq_true rfl) rfl dX11_draw_172 rfl (fun z11 T11 y11 => ?_)
  obtain ⟨rfl, w11, B11⟩ := y11
  have c0_11 := w11.at c0_10 (by decide)
  obtain ⟨l11, g11, -, -, -, a3_11, -⟩ := id B11
  refine ks_aload_n dX11_draw_175 rfl rfl ?_
  refine ks_getf (T := TX11) (kf := 1) kx_1054 rfl in_X11 cl_X11 (by decide) c0_11 rfl dX11_draw_176 rfl ?_
  refine ks_aload_n dX11_draw_179 rfl rfl ?_
  refine ks_getf (T := TX11) (kf := 12) kx_1065 rfl in_X11 cl_X11 (by decide) c0_11 rfl dX11_draw_180 rfl ?_
  refine ks_callV (n := 1) (M' := mX1_addCount) (bf_count (d := d + 5) (n := dc) B11 (by decide) (by omega)) a3_11 cl_X1 rfl kx_911 kx_868 kx_869 kx_2 kx_870 (by decide +kernel) rfl (by decide) (Nat.le_of_ble_eq_true rfl) rfl dX11_draw_183 rfl (fun z12 T12 y12 => ?_)
  obtain ⟨rfl, w12, B12⟩ := y12
  have c0_12 := w12.at c0_11 (by decide)
  obtain ⟨l12, g12, -, -, -, a3_12, -⟩ := id B12
  have ez : bytL gz 0 32 = bytL (drR 3 Ds dc) 0 32 := bytL_c (fun k hk => by rw [Nat.zero_add]; exact er2 k hk)
  have cl : (cntL dc).length = 1 := by unfold cntL; rw [if_pos (by omega)]; rfl
  rw [ez, bfA_ok (by rw [List.length_nil, numL_len]; decide), List.nil_append, bfA_ok (by rw [numL_len, bytL_len]; decide), bfA_ok (by rw [List.length_append, numL_len, bytL_len, bytL_len]; decide), bfA_ok (by rw [List.length_append, List.length_append, numL_len, bytL_len, bytL_len, numL_len]; decide), bfA_ok (by simp only [List.length_append, numL_len, bytL_len]; decide), bfA_ok (by simp only [List.length_append, numL_len, bytL_len]; decide), bfA_ok (by simp only [List.length_append, numL_len, bytL_len, cl]; decide)] at B12
  have epre : numL (lN 1) 4 ++ bytL gy 0 32 ++ bytL (drR 3 Ds dc) 0 32 ++ numL dt 4 ++ numL ((nI bt).toInt64) 4 ++ numL (lN 0) 4 ++ cntL dc = drH 3 (bytL gy 0 32) dt (nI bt) Ds dc ++ cntL dc := by rfl
  rw [epre] at B12
  have plen : (drH 3 (bytL gy 0 32) dt (nI bt) Ds dc ++ cntL dc).length = 81 := by rw [← epre]; simp only [List.length_append, numL_len, bytL_len, cl]
  have B13 : bfS T12 3 4 1600 (drC (drH 3 (bytL gy 0 32) dt (nI bt) Ds dc ++ cntL dc) Ds 0) := by
    unfold drC
    rw [show catT Ds 0 = [] from rfl, List.append_nil, if_pos (by rw [plen]; decide)]
    exact B12
  have w34 : ks_up S4 T12 [3, 4] := ((((((w5.mono (by decide)).trans (w6.mono (by decide))).trans (w7.mono (by decide))).trans (w8.mono (by decide))).trans (w9.mono (by decide))).trans (w10.mono (by decide))).trans ((w11.mono (by decide)).trans (w12.mono (by decide)))
  have u12 := u4.trans (w34.mono (L' := LDr) (by decide))
  have hh12 := hh4.up w34 (by decide)
  have W12 := W4.up w34 (by decide) (by decide)
  have e53d := w34.at e53c (by decide)
  have e54d := w34.at e54c (by decide)
  have D12 := hD.up u12 ldr_c
  have K12 := u12.st hK (by unfold ks_B; decide)
  have j0 : T12.2.2 0 = some (jdO dc dp dt rs) := u12.at h0 (by decide)
  refine ks_iconst (x := nI 0) dX11_draw_186 (by decide) rfl ?_
  refine ks_istore dX11_draw_187 (by decide) rfl ?_
  refine ks_sub [(4, _), (0, _), (1, _), (2, _), (3, _)] rfl ?_
  refine ks_sub [(0, _), (1, _), (2, _), (3, _), (4, _)] rfl (l_drLoop (d := d) (dp := dp) (rs := rs) (pre := drH 3 (bytL gy 0 32) dt (nI bt) Ds dc ++ cntL dc) j0 D12 hdc K12 (fun S9 u9 W9 B9 => ?_) dc 0 T12 (by omega) (ks_up.rf _ _) ⟨_, W12⟩ B13)
  exact ⟨rfl, u12.trans (u9.mono (by decide)), hh12.up u9 (by decide), W9, ⟨_, kgi, u9.at e53d (by decide)⟩, ⟨_, k54c, u9.at e54d (by decide)⟩, B9⟩
set_option maxRecDepth 100000 in
set_option maxHeartbeats 800000 in
theorem c_jd_draw4 {l : Launch} {G : ks_G} {d : Nat} {S : ks_S} {dc dp y bt : Nat} {dt : Int64} {rs : Int32} {Ds : Nat → dTx} {gi0 gr0 gy : Nat → Nat} {od ow : Option (List Nat)} (h0 : S.2.2 0 = some (jdO dc dp dt rs)) (hD : dfS S Ds) (hdc : dc ≤ 12) (hK : ks_stOK S) (hh : hsO S) (hw : bfS S 5 6 8000 ow) (hd : bfS S 3 4 1600 od) (h53 : S.2.2 53 = some (kB 384 gi0)) (kg0 : kO gi0) (h54 : S.2.2 54 = some (kB 32 gr0)) (kr0 : kO gr0) (h55 : S.2.2 55 = some (kB 32 (fun _ => 0))) (hy : S.2.2 y = some (kB 32 gy)) (kgy : kO gy) (hy55 : 55 ≤ y) : ks_P l G yX11_draw mX11_draw (d + 6) [.ref 0, .int (nI 4), .ref y, .int (nI bt)] S (fun z S' => z = none ∧ ks_up S S' LDr ∧ hsO S' ∧ (∃ ow, bfS S' 5 6 8000 ow) ∧ (∃ g, kO g ∧ S'.2.2 53 = some (kB 384 g)) ∧ (∃ g, kO g ∧ S'.2.2 54 = some (kB 32 g)) ∧ bfS S' 3 4 1600 (drC (drH 4 (bytL gy 0 32) dt (nI bt) Ds dc ++ cntL dc) Ds dc)) := by
  refine ks_of (by decide) rfl rfl (Nat.le_of_ble_eq_true rfl) ?_
  show ks_X l G mX11_draw (d + 6) 0 [(0, .ref 0), (1, .int (nI 4)), (2, .ref y), (3, .int (nI bt))] [] S _
  refine ks_iconst (x := nI 0) dX11_draw_0 (by decide) rfl ?_
  refine ks_istore dX11_draw_1 (by decide) rfl ?_
  refine ks_sub [(4, _), (0, _), (1, _), (2, _), (3, _)] rfl ?_
  refine ks_sub [(0, _), (1, _), (2, _), (3, _), (4, _)] rfl (l_drNames h0 hD hdc hK (fun S2 gi u2 hh2 ⟨ow2, W2⟩ e53 kgi hgi => ?_) dc 0 S gi0 (by omega) (ks_up.rf _ _) hh ⟨ow, hw⟩ h53 kg0 (fun j hj => absurd hj (by omega)))
  have ny : ∀ L : List Nat, (∀ x ∈ L, x < 55) → y ∉ L := fun L hL hx => by have := hL y hx; omega
  have a0 : S2.2.2 0 = some (.inr (14, [.ref 1, .ref 3, .ref 5, .ref 7, .ref 14, .ref 20, .ref 27, .ref 41, .ref 52, .ref 53, .ref 54, .ref 55, .int (nI dc), .int (nI dp), .long dt, .int rs])) := u2.at h0 (by decide)
  have K2 := u2.st hK (by unfold ks_B; decide)
  have e54x : ∃ gr, kO gr ∧ S2.2.2 54 = some (kB 32 gr) := ⟨_, kr0, u2.at h54 (by decide)⟩
  obtain ⟨gr, kgr, e54⟩ := e54x
  have B2 : ∃ o3, bfS S2 3 4 1600 o3 := ⟨_, hd.up u2 (by decide) (by decide)⟩
  obtain ⟨o3, B2⟩ := B2
  have O7 := hh2.1
  refine ks_aload_n dX11_draw_33 rfl rfl ?_
  refine ks_getf (T := TX11) (kf := 3) kx_1056 rfl in_X11 cl_X11 (by decide) a0 rfl dX11_draw_34 rfl ?_
  refine ks_aload_n dX11_draw_37 rfl rfl ?_
  refine ks_getf (T := TX11) (kf := 9) kx_1062 rfl in_X11 cl_X11 (by decide) a0 rfl dX11_draw_38 rfl ?_
  refine ks_aload_n dX11_draw_41 rfl rfl ?_
  refine ks_getf (T := TX11) (kf := 12) kx_1065 rfl in_X11 cl_X11 (by decide) a0 rfl dX11_draw_42 rfl ?_
  refine ks_aload_n dX11_draw_45 rfl rfl ?_
  refine ks_getf (T := TX11) (kf := 10) kx_1063 rfl in_X11 cl_X11 (by decide) a0 rfl dX11_draw_46 rfl ?_
  refine ks_callV (n := 3) (M' := mX6_root) (c_root (d := d) hh2 hs_neO K2 e53 kgi hdc (by omega) (by decide) e54 kgr (by decide) (by decide) (by decide) (by decide) (by decide) (by decide)) O7 cl_X6 rfl kx_904 kx_905 kx_906 kx_3 kx_907 (by decide +kernel) rfl (by decide) (Nat.le_of_ble_eq_true rfl) rfl dX11_draw_49 rfl (fun z3 T3 y3 => ?_)
  obtain ⟨rfl, w3, hh3, e54b⟩ := y3
  have u3 := (u2.mono (L' := LDr) (by decide)).trans (w3.mono (L' := LDr) (by decide))
  have b0 := w3.at a0 (by decide)
  have e53b := w3.at e53 (by decide)
  have B3 := B2.up w3 (by decide) (by decide)
  have W3 := W2.up w3 (by decide) (by decide)
  have K3 := w3.st K2 (by unfold ks_B; decide)
  have k54 : kO (ks_pt (root_ gi dc) gr 0 32) := kO_pt (kO_root kgi dc) kgr 0 32
  have er : ∀ j, j < 32 → ks_pt (root_ gi dc) gr 0 32 j = root_ (idG Ds) dc j := fun j hj => by
    have e1 := ks_pt_in (root_ gi dc) gr 0 32 hj
    rw [Nat.zero_add] at e1
    rw [e1]
    exact root_c hgi j hj
  generalize ks_pt (root_ gi dc) gr 0 32 = gq at *
  refine ks_iload_n dX11_draw_52 rfl rfl ?_
  refine ks_iconst (x := nI 1) dX11_draw_53 (by decide) rfl ?_
  refine ks_icmp_neN (tgt := 68) (by decide) (by decide) dX11_draw_54 (by decide) rfl (fun _ => ?_) (fun h => absurd h (by decide))
  obtain ⟨S4, hS4⟩ : ∃ S4, S4 = T3 := ⟨_, rfl⟩
  refine ks_tS (S' := S4) hS4.symm ?_
  have w4 : ks_up T3 S4 [54] := by rw [hS4]; exact ks_up.rf _ _
  have e54c : S4.2.2 54 = some (kB 32 gq) := by rw [hS4]; exact e54b
  have k54c := k54
  have er2 : ∀ j, j < 32 → gq j = drR 4 Ds dc j := fun j hj => by
    unfold drR
    rw [if_neg (fun h => absurd h.1 (by decide))]
    exact er j hj
  have u4 := u3.trans (w4.mono (L' := LDr) (by decide))
  have c0 := w4.at b0 (by decide)
  have hh4 := hh3.up w4 (by decide)
  have e53c := w4.at e53b (by decide)
  have B4 := B3.up w4 (by decide) (by decide)
  have W4 := W3.up w4 (by decide) (by decide)
  obtain ⟨gz, hgz⟩ : ∃ g, g = gq := ⟨_, rfl⟩
  rw [← hgz] at e54c k54c er2
  obtain ⟨l3, g3, -, -, -, a3, -⟩ := id B4
  refine ks_aload_n dX11_draw_68 rfl rfl ?_
  refine ks_getf (T := TX11) (kf := 1) kx_1054 rfl in_X11 cl_X11 (by decide) c0 rfl dX11_draw_69 rfl ?_
  refine ks_callV (n := 0) (M' := mX1_clear) (bf_clear (d := d + 5) B4) a3 cl_X1 rfl kx_842 kx_843 kx_844 kx_2 kx_845 (by decide +kernel) rfl (by decide) (Nat.le_of_ble_eq_true rfl) rfl dX11_draw_72 rfl (fun z5 T5 y5 => ?_)
  obtain ⟨rfl, w5, B5⟩ := y5
  have c0_5 := w5.at c0 (by decide)
  obtain ⟨l5, g5, -, -, -, a3_5, -⟩ := id B5
  refine ks_aload_n dX11_draw_75 rfl rfl ?_
  refine ks_getf (T := TX11) (kf := 1) kx_1054 rfl in_X11 cl_X11 (by decide) c0_5 rfl dX11_draw_76 rfl ?_
  refine ks_iload_n dX11_draw_79 rfl rfl ?_
  refine ks_iconst (x := nI 4) dX11_draw_80 (by decide) rfl ?_
  refine ks_icmp_neN (tgt := 90) (by decide) (by decide) dX11_draw_81 (by decide) rfl (fun h => absurd h (by decide)) (fun _ => ?_)
  refine ks_ldc2 dX11_draw_84 kx_909 rfl ?_
  refine ks_tl (y := lN 2) rfl ?_
  refine ks_goto (tgt := 91) dX11_draw_87 (by decide) ?_
  refine ks_iconst (x := nI 4) dX11_draw_91 (by decide) rfl ?_
  refine ks_callV (n := 2) (M' := mX1_addNumber) (bf_number (d := d + 5) (v := lN 2) B5 (by decide) (by decide)) a3_5 cl_X1 rfl kx_828 kx_829 kx_830 kx_2 kx_831 (by decide +kernel) rfl (by decide) (Nat.le_of_ble_eq_true rfl) rfl dX11_draw_92 rfl (fun z6 T6 y6 => ?_)
  obtain ⟨rfl, w6, B6⟩ := y6
  have c0_6 := w6.at c0_5 (by decide)
  obtain ⟨l6, g6, -, -, -, a3_6, -⟩ := id B6
  refine ks_aload_n dX11_draw_95 rfl rfl ?_
  refine ks_getf (T := TX11) (kf := 1) kx_1054 rfl in_X11 cl_X11 (by decide) c0_6 rfl dX11_draw_96 rfl ?_
  refine ks_iload_n dX11_draw_99 rfl rfl ?_
  refine ks_iconst (x := nI 5) dX11_draw_100 (by decide) rfl ?_
  refine ks_icmp_neN (tgt := 111) (by decide) (by decide) dX11_draw_101 (by decide) rfl (fun _ => ?_) (fun h => absurd h (by decide))
  refine ks_aload_n dX11_draw_111 rfl rfl ?_
  refine ks_iconst (x := nI 0) dX11_draw_112 (by decide) rfl ?_
  refine ks_bipush (x := nI 32) dX11_draw_113 (by decide) rfl ?_
  have hz6 : T6.2.2 y = some (kB 32 gy) := (w6.at (w5.at (w4.at (w3.at (u2.at hy (ny _ (by decide))) (ny _ (by decide))) (ny _ (by decide))) (ny _ (by decide))) (ny _ (by decide)))
  refine ks_callV (n := 3) (M' := mX1_addBytes) (bf_bytes (d := d + 4) (i := 0) (n := 32) B6 (by decide) hz6 kgy (by decide) (by decide)) a3_6 cl_X1 rfl kx_910 kx_872 kx_873 kx_2 kx_874 (by decide +kernel) rfl (by decide) (Nat.le_of_ble_eq_true rfl) rfl dX11_draw_115 rfl (fun z7 T7 y7 => ?_)
  obtain ⟨rfl, w7, B7⟩ := y7
  have c0_7 := w7.at c0_6 (by decide)
  obtain ⟨l7, g7, -, -, -, a3_7, -⟩ := id B7
  have hz7 : T7.2.2 54 = some (kB 32 gz) := w7.at (w6.at (w5.at e54c (by decide)) (by decide)) (by decide)
  refine ks_aload_n dX11_draw_118 rfl rfl ?_
  refine ks_getf (T := TX11) (kf := 1) kx_1054 rfl in_X11 cl_X11 (by decide) c0_7 rfl dX11_draw_119 rfl ?_
  refine ks_aload_n dX11_draw_122 rfl rfl ?_
  refine ks_getf (T := TX11) (kf := 10) kx_1063 rfl in_X11 cl_X11 (by decide) c0_7 rfl dX11_draw_123 rfl ?_
  refine ks_iconst (x := nI 0) dX11_draw_126 (by decide) rfl ?_
  refine ks_bipush (x := nI 32) dX11_draw_127 (by decide) rfl ?_
  refine ks_callV (n := 3) (M' := mX1_addBytes) (bf_bytes (d := d + 4) (i := 0) (n := 32) B7 (by decide) hz7 k54c (by decide) (by decide)) a3_7 cl_X1 rfl kx_910 kx_872 kx_873 kx_2 kx_874 (by decide +kernel) rfl (by decide) (Nat.le_of_ble_eq_true rfl) rfl dX11_draw_129 rfl (fun z8 T8 y8 => ?_)
  obtain ⟨rfl, w8, B8⟩ := y8
  have c0_8 := w8.at c0_7 (by decide)
  obtain ⟨l8, g8, -, -, -, a3_8, -⟩ := id B8
  refine ks_aload_n dX11_draw_132 rfl rfl ?_
  refine ks_getf (T := TX11) (kf := 1) kx_1054 rfl in_X11 cl_X11 (by decide) c0_8 rfl dX11_draw_133 rfl ?_
  refine ks_aload_n dX11_draw_136 rfl rfl ?_
  refine ks_getf (T := TX11) (kf := 14) kx_1067 rfl in_X11 cl_X11 (by decide) c0_8 rfl dX11_draw_137 rfl ?_
  refine ks_iconst (x := nI 4) dX11_draw_140 (by decide) rfl ?_
  refine ks_callV (n := 2) (M' := mX1_addNumber) (bf_number (d := d + 5) (v := dt) B8 (by decide) (by decide)) a3_8 cl_X1 rfl kx_828 kx_829 kx_830 kx_2 kx_831 (by decide +kernel) rfl (by decide) (Nat.le_of_ble_eq_true rfl) rfl dX11_draw_141 rfl (fun z9 T9 y9 => ?_)
  obtain ⟨rfl, w9, B9⟩ := y9
  have c0_9 := w9.at c0_8 (by decide)
  obtain ⟨l9, g9, -, -, -, a3_9, -⟩ := id B9
  refine ks_aload_n dX11_draw_144 rfl rfl ?_
  refine ks_getf (T := TX11) (kf := 1) kx_1054 rfl in_X11 cl_X11 (by decide) c0_9 rfl dX11_draw_145 rfl ?_
  refine ks_iload_n dX11_draw_148 rfl rfl ?_
  refine ks_iconst (x := nI 2) dX11_draw_149 (by decide) rfl ?_
  refine ks_icmp_neN (tgt := 160) (by decide) (by decide) dX11_draw_150 (by decide) rfl (fun _ => ?_) (fun h => absurd h (by decide))
  refine ks_iload_n dX11_draw_160 rfl rfl ?_
  refine ks_i2l dX11_draw_161 rfl ?_
  refine ks_iconst (x := nI 4) dX11_draw_162 (by decide) rfl ?_
  refine ks_callV (n := 2) (M' := mX1_addNumber) (bf_number (d := d + 5) (v := (nI bt).toInt64) B9 (by decide) (by decide)) a3_9 cl_X1 rfl kx_828 kx_829 kx_830 kx_2 kx_831 (by decide +kernel) rfl (by decide) (Nat.le_of_ble_eq_true rfl) rfl dX11_draw_163 rfl (fun z10 T10 y10 => ?_)
  obtain ⟨rfl, w10, B10⟩ := y10
  have c0_10 := w10.at c0_9 (by decide)
  obtain ⟨l10, g10, -, -, -, a3_10, -⟩ := id B10
  refine ks_aload_n dX11_draw_166 rfl rfl ?_
  refine ks_getf (T := TX11) (kf := 1) kx_1054 rfl in_X11 cl_X11 (by decide) c0_10 rfl dX11_draw_167 rfl ?_
  refine ks_lconst (x := lN 0) dX11_draw_170 (by decide) rfl ?_
  refine ks_iconst (x := nI 4) dX11_draw_171 (by decide) rfl ?_
  refine ks_callV (n := 2) (M' := mX1_addNumber) (bf_number (d := d + 5) (v := lN 0) B10 (by decide) (by decide)) a3_10 cl_X1 rfl kx_828 kx_829 kx_830 kx_2 kx_831 (by decide +kernel) rfl (by decide) (Nat.le_of_ble_eq_true rfl) rfl dX11_draw_172 rfl (fun z11 T11 y11 => ?_)
  obtain ⟨rfl, w11, B11⟩ := y11
  have c0_11 := w11.at c0_10 (by decide)
  obtain ⟨l11, g11, -, -, -, a3_11, -⟩ := id B11
  refine ks_aload_n dX11_draw_175 rfl rfl ?_
  refine ks_getf (T := TX11) (kf := 1) kx_1054 rfl in_X11 cl_X11 (by decide) c0_11 rfl dX11_draw_176 rfl ?_
  refine ks_aload_n dX11_draw_179 rfl rfl ?_
  refine ks_getf (T := TX11) (kf := 12) kx_1065 rfl in_X11 cl_X11 (by decide) c0_11 rfl dX11_draw_180 rfl ?_
  refine ks_callV (n := 1) (M' := mX1_addCount) (bf_count (d := d + 5) (n := dc) B11 (by decide) (by omega)) a3_11 cl_X1 rfl kx_911 kx_868 kx_869 kx_2 kx_870 (by decide +kernel) rfl (by decide) (Nat.le_of_ble_eq_true rfl) rfl dX11_draw_183 rfl (fun z12 T12 y12 => ?_)
  obtain ⟨rfl, w12, B12⟩ := y12
  have c0_12 := w12.at c0_11 (by decide)
  obtain ⟨l12, g12, -, -, -, a3_12, -⟩ := id B12
  have ez : bytL gz 0 32 = bytL (drR 4 Ds dc) 0 32 := bytL_c (fun k hk => by rw [Nat.zero_add]; exact er2 k hk)
  have cl : (cntL dc).length = 1 := by unfold cntL; rw [if_pos (by omega)]; rfl
  rw [ez, bfA_ok (by rw [List.length_nil, numL_len]; decide), List.nil_append, bfA_ok (by rw [numL_len, bytL_len]; decide), bfA_ok (by rw [List.length_append, numL_len, bytL_len, bytL_len]; decide), bfA_ok (by rw [List.length_append, List.length_append, numL_len, bytL_len, bytL_len, numL_len]; decide), bfA_ok (by simp only [List.length_append, numL_len, bytL_len]; decide), bfA_ok (by simp only [List.length_append, numL_len, bytL_len]; decide), bfA_ok (by simp only [List.length_append, numL_len, bytL_len, cl]; decide)] at B12
  have epre : numL (lN 2) 4 ++ bytL gy 0 32 ++ bytL (drR 4 Ds dc) 0 32 ++ numL dt 4 ++ numL ((nI bt).toInt64) 4 ++ numL (lN 0) 4 ++ cntL dc = drH 4 (bytL gy 0 32) dt (nI bt) Ds dc ++ cntL dc := by rfl
  rw [epre] at B12
  have plen : (drH 4 (bytL gy 0 32) dt (nI bt) Ds dc ++ cntL dc).length = 81 := by rw [← epre]; simp only [List.length_append, numL_len, bytL_len, cl]
  have B13 : bfS T12 3 4 1600 (drC (drH 4 (bytL gy 0 32) dt (nI bt) Ds dc ++ cntL dc) Ds 0) := by
    unfold drC
    rw [show catT Ds 0 = [] from rfl, List.append_nil, if_pos (by rw [plen]; decide)]
    exact B12
  have w34 : ks_up S4 T12 [3, 4] := ((((((w5.mono (by decide)).trans (w6.mono (by decide))).trans (w7.mono (by decide))).trans (w8.mono (by decide))).trans (w9.mono (by decide))).trans (w10.mono (by decide))).trans ((w11.mono (by decide)).trans (w12.mono (by decide)))
  have u12 := u4.trans (w34.mono (L' := LDr) (by decide))
  have hh12 := hh4.up w34 (by decide)
  have W12 := W4.up w34 (by decide) (by decide)
  have e53d := w34.at e53c (by decide)
  have e54d := w34.at e54c (by decide)
  have D12 := hD.up u12 ldr_c
  have K12 := u12.st hK (by unfold ks_B; decide)
  have j0 : T12.2.2 0 = some (jdO dc dp dt rs) := u12.at h0 (by decide)
  refine ks_iconst (x := nI 0) dX11_draw_186 (by decide) rfl ?_
  refine ks_istore dX11_draw_187 (by decide) rfl ?_
  refine ks_sub [(4, _), (0, _), (1, _), (2, _), (3, _)] rfl ?_
  refine ks_sub [(0, _), (1, _), (2, _), (3, _), (4, _)] rfl (l_drLoop (d := d) (dp := dp) (rs := rs) (pre := drH 4 (bytL gy 0 32) dt (nI bt) Ds dc ++ cntL dc) j0 D12 hdc K12 (fun S9 u9 W9 B9 => ?_) dc 0 T12 (by omega) (ks_up.rf _ _) ⟨_, W12⟩ B13)
  exact ⟨rfl, u12.trans (u9.mono (by decide)), hh12.up u9 (by decide), W9, ⟨_, kgi, u9.at e53d (by decide)⟩, ⟨_, k54c, u9.at e54d (by decide)⟩, B9⟩
set_option maxRecDepth 100000 in
set_option maxHeartbeats 800000 in
theorem c_jd_draw5 {l : Launch} {G : ks_G} {d : Nat} {S : ks_S} {dc dp y bt : Nat} {dt : Int64} {rs : Int32} {Ds : Nat → dTx} {gi0 gr0 gy : Nat → Nat} {od ow : Option (List Nat)} (h0 : S.2.2 0 = some (jdO dc dp dt rs)) (hD : dfS S Ds) (hdc : dc ≤ 12) (hK : ks_stOK S) (hh : hsO S) (hw : bfS S 5 6 8000 ow) (hd : bfS S 3 4 1600 od) (h53 : S.2.2 53 = some (kB 384 gi0)) (kg0 : kO gi0) (h54 : S.2.2 54 = some (kB 32 gr0)) (kr0 : kO gr0) (h55 : S.2.2 55 = some (kB 32 (fun _ => 0))) (hy : S.2.2 y = some (kB 32 gy)) (kgy : kO gy) (hy55 : 55 ≤ y) : ks_P l G yX11_draw mX11_draw (d + 6) [.ref 0, .int (nI 5), .ref y, .int (nI bt)] S (fun z S' => z = none ∧ ks_up S S' LDr ∧ hsO S' ∧ (∃ ow, bfS S' 5 6 8000 ow) ∧ (∃ g, kO g ∧ S'.2.2 53 = some (kB 384 g)) ∧ (∃ g, kO g ∧ S'.2.2 54 = some (kB 32 g)) ∧ bfS S' 3 4 1600 (drC (drH 5 (bytL gy 0 32) dt (nI bt) Ds dc ++ cntL dc) Ds dc)) := by
  refine ks_of (by decide) rfl rfl (Nat.le_of_ble_eq_true rfl) ?_
  show ks_X l G mX11_draw (d + 6) 0 [(0, .ref 0), (1, .int (nI 5)), (2, .ref y), (3, .int (nI bt))] [] S _
  refine ks_iconst (x := nI 0) dX11_draw_0 (by decide) rfl ?_
  refine ks_istore dX11_draw_1 (by decide) rfl ?_
  refine ks_sub [(4, _), (0, _), (1, _), (2, _), (3, _)] rfl ?_
  refine ks_sub [(0, _), (1, _), (2, _), (3, _), (4, _)] rfl (l_drNames h0 hD hdc hK (fun S2 gi u2 hh2 ⟨ow2, W2⟩ e53 kgi hgi => ?_) dc 0 S gi0 (by omega) (ks_up.rf _ _) hh ⟨ow, hw⟩ h53 kg0 (fun j hj => absurd hj (by omega)))
  have ny : ∀ L : List Nat, (∀ x ∈ L, x < 55) → y ∉ L := fun L hL hx => by have := hL y hx; omega
  have a0 : S2.2.2 0 = some (.inr (14, [.ref 1, .ref 3, .ref 5, .ref 7, .ref 14, .ref 20, .ref 27, .ref 41, .ref 52, .ref 53, .ref 54, .ref 55, .int (nI dc), .int (nI dp), .long dt, .int rs])) := u2.at h0 (by decide)
  have K2 := u2.st hK (by unfold ks_B; decide)
  have e54x : ∃ gr, kO gr ∧ S2.2.2 54 = some (kB 32 gr) := ⟨_, kr0, u2.at h54 (by decide)⟩
  obtain ⟨gr, kgr, e54⟩ := e54x
  have B2 : ∃ o3, bfS S2 3 4 1600 o3 := ⟨_, hd.up u2 (by decide) (by decide)⟩
  obtain ⟨o3, B2⟩ := B2
  have O7 := hh2.1
  refine ks_aload_n dX11_draw_33 rfl rfl ?_
  refine ks_getf (T := TX11) (kf := 3) kx_1056 rfl in_X11 cl_X11 (by decide) a0 rfl dX11_draw_34 rfl ?_
  refine ks_aload_n dX11_draw_37 rfl rfl ?_
  refine ks_getf (T := TX11) (kf := 9) kx_1062 rfl in_X11 cl_X11 (by decide) a0 rfl dX11_draw_38 rfl ?_
  refine ks_aload_n dX11_draw_41 rfl rfl ?_
  refine ks_getf (T := TX11) (kf := 12) kx_1065 rfl in_X11 cl_X11 (by decide) a0 rfl dX11_draw_42 rfl ?_
  refine ks_aload_n dX11_draw_45 rfl rfl ?_
  refine ks_getf (T := TX11) (kf := 10) kx_1063 rfl in_X11 cl_X11 (by decide) a0 rfl dX11_draw_46 rfl ?_
  refine ks_callV (n := 3) (M' := mX6_root) (c_root (d := d) hh2 hs_neO K2 e53 kgi hdc (by omega) (by decide) e54 kgr (by decide) (by decide) (by decide) (by decide) (by decide) (by decide)) O7 cl_X6 rfl kx_904 kx_905 kx_906 kx_3 kx_907 (by decide +kernel) rfl (by decide) (Nat.le_of_ble_eq_true rfl) rfl dX11_draw_49 rfl (fun z3 T3 y3 => ?_)
  obtain ⟨rfl, w3, hh3, e54b⟩ := y3
  have u3 := (u2.mono (L' := LDr) (by decide)).trans (w3.mono (L' := LDr) (by decide))
  have b0 := w3.at a0 (by decide)
  have e53b := w3.at e53 (by decide)
  have B3 := B2.up w3 (by decide) (by decide)
  have W3 := W2.up w3 (by decide) (by decide)
  have K3 := w3.st K2 (by unfold ks_B; decide)
  have k54 : kO (ks_pt (root_ gi dc) gr 0 32) := kO_pt (kO_root kgi dc) kgr 0 32
  have er : ∀ j, j < 32 → ks_pt (root_ gi dc) gr 0 32 j = root_ (idG Ds) dc j := fun j hj => by
    have e1 := ks_pt_in (root_ gi dc) gr 0 32 hj
    rw [Nat.zero_add] at e1
    rw [e1]
    exact root_c hgi j hj
  generalize ks_pt (root_ gi dc) gr 0 32 = gq at *
  refine ks_iload_n dX11_draw_52 rfl rfl ?_
  refine ks_iconst (x := nI 1) dX11_draw_53 (by decide) rfl ?_
  refine ks_icmp_neN (tgt := 68) (by decide) (by decide) dX11_draw_54 (by decide) rfl (fun _ => ?_) (fun h => absurd h (by decide))
  obtain ⟨S4, hS4⟩ : ∃ S4, S4 = T3 := ⟨_, rfl⟩
  refine ks_tS (S' := S4) hS4.symm ?_
  have w4 : ks_up T3 S4 [54] := by rw [hS4]; exact ks_up.rf _ _
  have e54c : S4.2.2 54 = some (kB 32 gq) := by rw [hS4]; exact e54b
  have k54c := k54
  have er2 : ∀ j, j < 32 → gq j = drR 5 Ds dc j := fun j hj => by
    unfold drR
    rw [if_neg (fun h => absurd h.1 (by decide))]
    exact er j hj
  have u4 := u3.trans (w4.mono (L' := LDr) (by decide))
  have c0 := w4.at b0 (by decide)
  have hh4 := hh3.up w4 (by decide)
  have e53c := w4.at e53b (by decide)
  have B4 := B3.up w4 (by decide) (by decide)
  have W4 := W3.up w4 (by decide) (by decide)
  obtain ⟨gz, hgz⟩ : ∃ g, g = gq := ⟨_, rfl⟩
  rw [← hgz] at e54c k54c er2
  obtain ⟨l3, g3, -, -, -, a3, -⟩ := id B4
  refine ks_aload_n dX11_draw_68 rfl rfl ?_
  refine ks_getf (T := TX11) (kf := 1) kx_1054 rfl in_X11 cl_X11 (by decide) c0 rfl dX11_draw_69 rfl ?_
  refine ks_callV (n := 0) (M' := mX1_clear) (bf_clear (d := d + 5) B4) a3 cl_X1 rfl kx_842 kx_843 kx_844 kx_2 kx_845 (by decide +kernel) rfl (by decide) (Nat.le_of_ble_eq_true rfl) rfl dX11_draw_72 rfl (fun z5 T5 y5 => ?_)
  obtain ⟨rfl, w5, B5⟩ := y5
  have c0_5 := w5.at c0 (by decide)
  obtain ⟨l5, g5, -, -, -, a3_5, -⟩ := id B5
  refine ks_aload_n dX11_draw_75 rfl rfl ?_
  refine ks_getf (T := TX11) (kf := 1) kx_1054 rfl in_X11 cl_X11 (by decide) c0_5 rfl dX11_draw_76 rfl ?_
  refine ks_iload_n dX11_draw_79 rfl rfl ?_
  refine ks_iconst (x := nI 4) dX11_draw_80 (by decide) rfl ?_
  refine ks_icmp_neN (tgt := 90) (by decide) (by decide) dX11_draw_81 (by decide) rfl (fun _ => ?_) (fun h => absurd h (by decide))
  refine ks_lconst (x := lN 1) dX11_draw_90 (by decide) rfl ?_
  refine ks_iconst (x := nI 4) dX11_draw_91 (by decide) rfl ?_
  refine ks_callV (n := 2) (M' := mX1_addNumber) (bf_number (d := d + 5) (v := lN 1) B5 (by decide) (by decide)) a3_5 cl_X1 rfl kx_828 kx_829 kx_830 kx_2 kx_831 (by decide +kernel) rfl (by decide) (Nat.le_of_ble_eq_true rfl) rfl dX11_draw_92 rfl (fun z6 T6 y6 => ?_)
  obtain ⟨rfl, w6, B6⟩ := y6
  have c0_6 := w6.at c0_5 (by decide)
  obtain ⟨l6, g6, -, -, -, a3_6, -⟩ := id B6
  refine ks_aload_n dX11_draw_95 rfl rfl ?_
  refine ks_getf (T := TX11) (kf := 1) kx_1054 rfl in_X11 cl_X11 (by decide) c0_6 rfl dX11_draw_96 rfl ?_
  refine ks_iload_n dX11_draw_99 rfl rfl ?_
  refine ks_iconst (x := nI 5) dX11_draw_100 (by decide) rfl ?_
  refine ks_icmp_neN (tgt := 111) (by decide) (by decide) dX11_draw_101 (by decide) rfl (fun h => absurd h (by decide)) (fun _ => ?_)
  refine ks_aload_n dX11_draw_104 rfl rfl ?_
  refine ks_getf (T := TX11) (kf := 11) kx_1064 rfl in_X11 cl_X11 (by decide) c0_6 rfl dX11_draw_105 rfl ?_
  refine ks_goto (tgt := 112) dX11_draw_108 (by decide) ?_
  refine ks_iconst (x := nI 0) dX11_draw_112 (by decide) rfl ?_
  refine ks_bipush (x := nI 32) dX11_draw_113 (by decide) rfl ?_
  have hz6 : T6.2.2 55 = some (kB 32 (fun _ => 0)) := (w6.at (w5.at (w4.at (w3.at (u2.at h55 (by decide)) (by decide)) (by decide)) (by decide)) (by decide))
  refine ks_callV (n := 3) (M' := mX1_addBytes) (bf_bytes (d := d + 4) (i := 0) (n := 32) B6 (by decide) hz6 kO_zero (by decide) (by decide)) a3_6 cl_X1 rfl kx_910 kx_872 kx_873 kx_2 kx_874 (by decide +kernel) rfl (by decide) (Nat.le_of_ble_eq_true rfl) rfl dX11_draw_115 rfl (fun z7 T7 y7 => ?_)
  obtain ⟨rfl, w7, B7⟩ := y7
  have c0_7 := w7.at c0_6 (by decide)
  obtain ⟨l7, g7, -, -, -, a3_7, -⟩ := id B7
  have hz7 : T7.2.2 54 = some (kB 32 gz) := w7.at (w6.at (w5.at e54c (by decide)) (by decide)) (by decide)
  refine ks_aload_n dX11_draw_118 rfl rfl ?_
  refine ks_getf (T := TX11) (kf := 1) kx_1054 rfl in_X11 cl_X11 (by decide) c0_7 rfl dX11_draw_119 rfl ?_
  refine ks_aload_n dX11_draw_122 rfl rfl ?_
  refine ks_getf (T := TX11) (kf := 10) kx_1063 rfl in_X11 cl_X11 (by decide) c0_7 rfl dX11_draw_123 rfl ?_
  refine ks_iconst (x := nI 0) dX11_draw_126 (by decide) rfl ?_
  refine ks_bipush (x := nI 32) dX11_draw_127 (by decide) rfl ?_
  refine ks_callV (n := 3) (M' := mX1_addBytes) (bf_bytes (d := d + 4) (i := 0) (n := 32) B7 (by decide) hz7 k54c (by decide) (by decide)) a3_7 cl_X1 rfl kx_910 kx_872 kx_873 kx_2 kx_874 (by decide +kernel) rfl (by decide) (Nat.le_of_ble_eq_true rfl) rfl dX11_draw_129 rfl (fun z8 T8 y8 => ?_)
  obtain ⟨rfl, w8, B8⟩ := y8
  have c0_8 := w8.at c0_7 (by decide)
  obtain ⟨l8, g8, -, -, -, a3_8, -⟩ := id B8
  refine ks_aload_n dX11_draw_132 rfl rfl ?_
  refine ks_getf (T := TX11) (kf := 1) kx_1054 rfl in_X11 cl_X11 (by decide) c0_8 rfl dX11_draw_133 rfl ?_
  refine ks_aload_n dX11_draw_136 rfl rfl ?_
  refine ks_getf (T := TX11) (kf := 14) kx_1067 rfl in_X11 cl_X11 (by decide) c0_8 rfl dX11_draw_137 rfl ?_
  refine ks_iconst (x := nI 4) dX11_draw_140 (by decide) rfl ?_
  refine ks_callV (n := 2) (M' := mX1_addNumber) (bf_number (d := d + 5) (v := dt) B8 (by decide) (by decide)) a3_8 cl_X1 rfl kx_828 kx_829 kx_830 kx_2 kx_831 (by decide +kernel) rfl (by decide) (Nat.le_of_ble_eq_true rfl) rfl dX11_draw_141 rfl (fun z9 T9 y9 => ?_)
  obtain ⟨rfl, w9, B9⟩ := y9
  have c0_9 := w9.at c0_8 (by decide)
  obtain ⟨l9, g9, -, -, -, a3_9, -⟩ := id B9
  refine ks_aload_n dX11_draw_144 rfl rfl ?_
  refine ks_getf (T := TX11) (kf := 1) kx_1054 rfl in_X11 cl_X11 (by decide) c0_9 rfl dX11_draw_145 rfl ?_
  refine ks_iload_n dX11_draw_148 rfl rfl ?_
  refine ks_iconst (x := nI 2) dX11_draw_149 (by decide) rfl ?_
  refine ks_icmp_neN (tgt := 160) (by decide) (by decide) dX11_draw_150 (by decide) rfl (fun _ => ?_) (fun h => absurd h (by decide))
  refine ks_iload_n dX11_draw_160 rfl rfl ?_
  refine ks_i2l dX11_draw_161 rfl ?_
  refine ks_iconst (x := nI 4) dX11_draw_162 (by decide) rfl ?_
  refine ks_callV (n := 2) (M' := mX1_addNumber) (bf_number (d := d + 5) (v := (nI bt).toInt64) B9 (by decide) (by decide)) a3_9 cl_X1 rfl kx_828 kx_829 kx_830 kx_2 kx_831 (by decide +kernel) rfl (by decide) (Nat.le_of_ble_eq_true rfl) rfl dX11_draw_163 rfl (fun z10 T10 y10 => ?_)
  obtain ⟨rfl, w10, B10⟩ := y10
  have c0_10 := w10.at c0_9 (by decide)
  obtain ⟨l10, g10, -, -, -, a3_10, -⟩ := id B10
  refine ks_aload_n dX11_draw_166 rfl rfl ?_
  refine ks_getf (T := TX11) (kf := 1) kx_1054 rfl in_X11 cl_X11 (by decide) c0_10 rfl dX11_draw_167 rfl ?_
  refine ks_lconst (x := lN 0) dX11_draw_170 (by decide) rfl ?_
  refine ks_iconst (x := nI 4) dX11_draw_171 (by decide) rfl ?_
  refine ks_callV (n := 2) (M' := mX1_addNumber) (bf_number (d := d + 5) (v := lN 0) B10 (by decide) (by decide)) a3_10 cl_X1 rfl kx_828 kx_829 kx_830 kx_2 kx_831 (by decide +kernel) rfl (by decide) (Nat.le_of_ble_eq_true rfl) rfl dX11_draw_172 rfl (fun z11 T11 y11 => ?_)
  obtain ⟨rfl, w11, B11⟩ := y11
  have c0_11 := w11.at c0_10 (by decide)
  obtain ⟨l11, g11, -, -, -, a3_11, -⟩ := id B11
  refine ks_aload_n dX11_draw_175 rfl rfl ?_
  refine ks_getf (T := TX11) (kf := 1) kx_1054 rfl in_X11 cl_X11 (by decide) c0_11 rfl dX11_draw_176 rfl ?_
  refine ks_aload_n dX11_draw_179 rfl rfl ?_
  refine ks_getf (T := TX11) (kf := 12) kx_1065 rfl in_X11 cl_X11 (by decide) c0_11 rfl dX11_draw_180 rfl ?_
  refine ks_callV (n := 1) (M' := mX1_addCount) (bf_count (d := d + 5) (n := dc) B11 (by decide) (by omega)) a3_11 cl_X1 rfl kx_911 kx_868 kx_869 kx_2 kx_870 (by decide +kernel) rfl (by decide) (Nat.le_of_ble_eq_true rfl) rfl dX11_draw_183 rfl (fun z12 T12 y12 => ?_)
  obtain ⟨rfl, w12, B12⟩ := y12
  have c0_12 := w12.at c0_11 (by decide)
  obtain ⟨l12, g12, -, -, -, a3_12, -⟩ := id B12
  have ez : bytL gz 0 32 = bytL (drR 5 Ds dc) 0 32 := bytL_c (fun k hk => by rw [Nat.zero_add]; exact er2 k hk)
  have cl : (cntL dc).length = 1 := by unfold cntL; rw [if_pos (by omega)]; rfl
  rw [ez, bfA_ok (by rw [List.length_nil, numL_len]; decide), List.nil_append, bfA_ok (by rw [numL_len, bytL_len]; decide), bfA_ok (by rw [List.length_append, numL_len, bytL_len, bytL_len]; decide), bfA_ok (by rw [List.length_append, List.length_append, numL_len, bytL_len, bytL_len, numL_len]; decide), bfA_ok (by simp only [List.length_append, numL_len, bytL_len]; decide), bfA_ok (by simp only [List.length_append, numL_len, bytL_len]; decide), bfA_ok (by simp only [List.length_append, numL_len, bytL_len, cl]; decide)] at B12
  have epre : numL (lN 1) 4 ++ bytL (fun _ => 0) 0 32 ++ bytL (drR 5 Ds dc) 0 32 ++ numL dt 4 ++ numL ((nI bt).toInt64) 4 ++ numL (lN 0) 4 ++ cntL dc = drH 5 (bytL gy 0 32) dt (nI bt) Ds dc ++ cntL dc := by rfl
  rw [epre] at B12
  have plen : (drH 5 (bytL gy 0 32) dt (nI bt) Ds dc ++ cntL dc).length = 81 := by rw [← epre]; simp only [List.length_append, numL_len, bytL_len, cl]
  have B13 : bfS T12 3 4 1600 (drC (drH 5 (bytL gy 0 32) dt (nI bt) Ds dc ++ cntL dc) Ds 0) := by
    unfold drC
    rw [show catT Ds 0 = [] from rfl, List.append_nil, if_pos (by rw [plen]; decide)]
    exact B12
  have w34 : ks_up S4 T12 [3, 4] := ((((((w5.mono (by decide)).trans (w6.mono (by decide))).trans (w7.mono (by decide))).trans (w8.mono (by decide))).trans (w9.mono (by decide))).trans (w10.mono (by decide))).trans ((w11.mono (by decide)).trans (w12.mono (by decide)))
  have u12 := u4.trans (w34.mono (L' := LDr) (by decide))
  have hh12 := hh4.up w34 (by decide)
  have W12 := W4.up w34 (by decide) (by decide)
  have e53d := w34.at e53c (by decide)
  have e54d := w34.at e54c (by decide)
  have D12 := hD.up u12 ldr_c
  have K12 := u12.st hK (by unfold ks_B; decide)
  have j0 : T12.2.2 0 = some (jdO dc dp dt rs) := u12.at h0 (by decide)
  refine ks_iconst (x := nI 0) dX11_draw_186 (by decide) rfl ?_
  refine ks_istore dX11_draw_187 (by decide) rfl ?_
  refine ks_sub [(4, _), (0, _), (1, _), (2, _), (3, _)] rfl ?_
  refine ks_sub [(0, _), (1, _), (2, _), (3, _), (4, _)] rfl (l_drLoop (d := d) (dp := dp) (rs := rs) (pre := drH 5 (bytL gy 0 32) dt (nI bt) Ds dc ++ cntL dc) j0 D12 hdc K12 (fun S9 u9 W9 B9 => ?_) dc 0 T12 (by omega) (ks_up.rf _ _) ⟨_, W12⟩ B13)
  exact ⟨rfl, u12.trans (u9.mono (by decide)), hh12.up u9 (by decide), W9, ⟨_, kgi, u9.at e53d (by decide)⟩, ⟨_, k54c, u9.at e54d (by decide)⟩, B9⟩
