/-! THE JUDGE: keys, sealing -/
set_option maxRecDepth 100000 in
set_option maxHeartbeats 800000 in
theorem c_jd_key0 {l : Launch} {G : ks_G} {d : Nat} {S : ks_S} {dc dp : Nat} {dt : Int64} {rs : Int32} (h0 : S.2.2 0 = some (jdO dc dp dt rs)) {T : List Nat} (hT : bfS S 1 2 1600 (some T)) {ow : Option (List Nat)} {c : Nat} (hc1 : 1 ≤ c) (hc : c < 2 ^ 31) (hw : bfS S 5 6 8000 ow) (hI : cuI S) (hh : hsO S) (hK : ks_stOK S) (hf : T.length + 33 ≤ 1600) : ks_P l G yX11_key mX11_key (d + 5) [.ref 0, .int (nI c), .int (nI 0)] S (fun z S' => z = some (.int (nI (T.length + 33))) ∧ ks_up S S' [16, 18, 19, 9, 8, 10, 11, 12, 6, 5, 2, 1] ∧ cuI S' ∧ hsO S' ∧ (∃ ow, bfS S' 5 6 8000 ow) ∧ ∃ x y, afP (kG c) x y ∧ bfS S' 1 2 1600 (some (T ++ keyL false x y))) := by
  have h0 : S.2.2 0 = some (.inr (14, [.ref 1, .ref 3, .ref 5, .ref 7, .ref 14, .ref 20, .ref 27, .ref 41, .ref 52, .ref 53, .ref 54, .ref 55, .int (nI dc), .int (nI dp), .long dt, .int rs])) := h0
  obtain ⟨len, g, kg, hl16, e2, e1, ⟨hl, hg⟩⟩ := id hT
  obtain ⟨lw, gw, -, -, -, h5, -⟩ := id hw
  refine ks_of (by decide) rfl rfl (Nat.le_of_ble_eq_true rfl) ?_
  show ks_X l G mX11_key (d + 5) 0 [(0, .ref 0), (1, .int (nI c)), (2, .int (nI 0))] [] S _
  refine ks_iload_n dX11_key_0 rfl rfl ?_
  refine ks_iconst (x := nI 1) dX11_key_1 (by decide) rfl ?_
  refine ks_icmp_ltN (tgt := 14) (by omega) (by decide) dX11_key_2 (by decide) rfl (fun h1 => absurd h1 (by omega)) (fun h1 => ?_)
  refine ks_iload_n dX11_key_5 rfl rfl ?_
  refine ks_if_ltN (tgt := 14) (by decide) dX11_key_6 (by decide) rfl ?_
  refine ks_iload_n dX11_key_9 rfl rfl ?_
  refine ks_iconst (x := nI 2) dX11_key_10 (by decide) rfl ?_
  refine ks_icmp_leN (tgt := 22) (by decide) (by decide) dX11_key_11 (by decide) rfl (fun _ => ?_) (fun h => absurd h (by decide))
  refine ks_iload_n dX11_key_22 rfl rfl ?_
  refine ks_if_neN (tgt := 31) (by decide) dX11_key_23 (by decide) rfl (fun h => absurd h (by decide)) (fun _ => ?_)
  refine ks_bipush (x := nI 33) dX11_key_26 (by decide) rfl ?_
  refine ks_goto (tgt := 43) dX11_key_28 (by decide) ?_
  refine ks_istore_n dX11_key_43 (by decide) rfl ?_
  refine ks_sub [(3, _), (0, _), (1, _), (2, _)] rfl ?_
  refine ks_aload_n dX11_key_44 rfl rfl ?_
  refine ks_getf (T := TX11) (kf := 0) kx_1053 rfl in_X11 cl_X11 (by decide) h0 rfl dX11_key_45 rfl ?_
  refine ks_getf (T := TX1) (kf := 1) kx_59 rfl in_X1 cl_X1 (by decide) e1 rfl dX11_key_48 rfl ?_
  refine ks_iload_n dX11_key_51 rfl rfl ?_
  refine ks_addN dX11_key_52 rfl ?_
  refine ks_sipush (x := nI 1600) dX11_key_53 (by decide) rfl ?_
  refine ks_icmp_leN (tgt := 67) (by omega) (by decide) dX11_key_56 (by decide) rfl (fun h2 => ?_) (fun h2 => absurd h2 (by omega))
  refine ks_aload_n dX11_key_67 rfl rfl ?_
  refine ks_getf (T := TX11) (kf := 2) kx_1055 rfl in_X11 cl_X11 (by decide) h0 rfl dX11_key_68 rfl ?_
  refine ks_callV (n := 0) (M' := mX1_clear) (bf_clear (d := d + 4) hw) h5 cl_X1 rfl kx_842 kx_843 kx_844 kx_2 kx_845 (by decide +kernel) rfl (by decide) (Nat.le_of_ble_eq_true rfl) rfl dX11_key_71 rfl (fun z1 T1 y1 => ?_)
  obtain ⟨rfl, w1, B1⟩ := y1
  have a0 := w1.at h0 (by decide)
  have I1 := hI.up w1 (by decide)
  have hh1 := hh.up w1 (by decide)
  have K1 := w1.st hK (by unfold ks_B; decide)
  have t1 := hT.up w1 (by decide) (by decide)
  obtain ⟨lw1, gw1, -, -, -, a5, -⟩ := id B1
  have O14 : ∃ fs, T1.2.2 14 = some (.inr (6, fs)) := by obtain ⟨ir, R, Q, ⟨⟨c1, -, -⟩, -, -⟩, -⟩ := I1; exact ⟨_, c1⟩
  obtain ⟨fs14, O14⟩ := O14
  refine ks_aload_n dX11_key_74 rfl rfl ?_
  refine ks_getf (T := TX11) (kf := 4) kx_1057 rfl in_X11 cl_X11 (by decide) a0 rfl dX11_key_75 rfl ?_
  refine ks_iload_n dX11_key_78 rfl rfl ?_
  refine ks_iload_n dX11_key_79 rfl rfl ?_
  refine ks_iconst (x := nI 1) dX11_key_80 (by decide) rfl ?_
  refine ks_icmp_neN (tgt := 88) (by decide) (by decide) dX11_key_81 (by decide) rfl (fun _ => ?_) (fun h => absurd h (by decide))
  refine ks_iconst (x := nI 0) dX11_key_88 (by decide) rfl ?_
  refine ks_ti (y := ks_bo false) rfl ?_
  refine ks_aload_n dX11_key_89 rfl rfl ?_
  refine ks_getf (T := TX11) (kf := 2) kx_1055 rfl in_X11 cl_X11 (by decide) a0 rfl dX11_key_90 rfl ?_
  refine ks_callV (n := 3) (M' := mX3_writeKey) (c_cv_writeKey (d := d) (wh := false) I1 B1 (by decide) (by rw [List.length_nil]; decide) hc (by decide) (by decide)) O14 cl_X3 rfl kx_1178 kx_1179 kx_1180 kx_4 kx_1181 (by decide +kernel) rfl (by decide) (Nat.le_of_ble_eq_true rfl) rfl dX11_key_93 rfl (fun z2 T2 y2 => ?_)
  obtain ⟨rfl, w2, I2, x, y, hxy, B2⟩ := y2
  rw [List.nil_append] at B2
  have b0 := w2.at a0 (by decide)
  have hh2 := hh1.up w2 (by decide)
  have t2 := t1.up w2 (by decide) (by decide)
  have K2 := w2.st K1 (by unfold ks_B; decide)
  have kl := keyL_len false x y
  obtain ⟨lw2, gw2, kg2, lw8, e6, a5b, ⟨q2, hg2⟩⟩ := id B2
  obtain ⟨len2, g2, -, -, -, a1, ⟨q1, -⟩⟩ := id t2
  have O7 := hh2.1
  refine ks_iload_n dX11_key_96 rfl rfl ?_
  refine ks_iconst (x := nI 2) dX11_key_97 (by decide) rfl ?_
  refine ks_icmp_neN (tgt := 131) (by decide) (by decide) dX11_key_98 (by decide) rfl (fun _ => ?_) (fun h => absurd h (by decide))
  refine ks_aload_n dX11_key_131 rfl rfl ?_
  refine ks_getf (T := TX11) (kf := 0) kx_1053 rfl in_X11 cl_X11 (by decide) b0 rfl dX11_key_132 rfl ?_
  refine ks_aload_n dX11_key_135 rfl rfl ?_
  refine ks_getf (T := TX11) (kf := 2) kx_1055 rfl in_X11 cl_X11 (by decide) b0 rfl dX11_key_136 rfl ?_
  refine ks_getf (T := TX1) (kf := 0) kx_54 rfl in_X1 cl_X1 (by decide) a5b rfl dX11_key_139 rfl ?_
  refine ks_iconst (x := nI 0) dX11_key_142 (by decide) rfl ?_
  refine ks_iload_n dX11_key_143 rfl rfl ?_
  refine ks_callV (n := 3) (M' := mX1_addBytes) (bf_bytes (d := d + 3) (i := 0) (n := 33) t2 (by decide) e6 kg2 (by decide) (by decide)) a1 cl_X1 rfl kx_910 kx_872 kx_873 kx_2 kx_874 (by decide +kernel) rfl (by decide) (Nat.le_of_ble_eq_true rfl) rfl dX11_key_144 rfl (fun z4 T4 y4 => ?_)
  obtain ⟨rfl, w4, t4⟩ := y4
  have eb : bytL gw2 0 33 = keyL false x y := by
    have e9 : lw2 = 33 := by rw [← q2, kl]; rfl
    refine List.ext_getElem (by rw [bytL_len, kl]; rfl) (fun k h1 h2 => ?_)
    simp only [bytL, List.getElem_map, List.getElem_range, Nat.zero_add]
    rw [hg2 k (by rw [← q2]; exact h2)]
    simp [List.getD, h2]
  rw [eb, bfA_ok (by rw [kl]; show T.length + 33 ≤ 1600; omega)] at t4
  have u4 : ks_up S T4 [16, 18, 19, 9, 8, 10, 11, 12, 6, 5, 2, 1] := ((w1.mono (by decide)).trans (w2.mono (by decide))).trans (w4.mono (by decide))
  have I4 := I2.up w4 (by decide)
  have hh4 := hh2.up w4 (by decide)
  have B4 := B2.up w4 (by decide) (by decide)
  have d0 : T4.2.2 0 = some (.inr (14, [.ref 1, .ref 3, .ref 5, .ref 7, .ref 14, .ref 20, .ref 27, .ref 41, .ref 52, .ref 53, .ref 54, .ref 55, .int (nI dc), .int (nI dp), .long dt, .int rs])) := u4.at h0 (by decide)
  obtain ⟨len4, g4, -, -, -, a1c, ⟨q4, -⟩⟩ := id t4
  refine ks_aload_n dX11_key_147 rfl rfl ?_
  refine ks_getf (T := TX11) (kf := 0) kx_1053 rfl in_X11 cl_X11 (by decide) d0 rfl dX11_key_148 rfl ?_
  refine ks_getf (T := TX1) (kf := 1) kx_59 rfl in_X1 cl_X1 (by decide) a1c rfl dX11_key_151 rfl ?_
  refine ks_iret rfl dX11_key_154 ?_
  rw [← q4, List.length_append, kl, show (if false = true then 65 else 33) = 33 from rfl]
  exact ⟨rfl, u4, I4, hh4, ⟨_, B4⟩, x, y, hxy, t4⟩
set_option maxRecDepth 100000 in
set_option maxHeartbeats 800000 in
theorem c_jd_key1 {l : Launch} {G : ks_G} {d : Nat} {S : ks_S} {dc dp : Nat} {dt : Int64} {rs : Int32} (h0 : S.2.2 0 = some (jdO dc dp dt rs)) {T : List Nat} (hT : bfS S 1 2 1600 (some T)) {ow : Option (List Nat)} {c : Nat} (hc1 : 1 ≤ c) (hc : c < 2 ^ 31) (hw : bfS S 5 6 8000 ow) (hI : cuI S) (hh : hsO S) (hK : ks_stOK S) (hf : T.length + 65 ≤ 1600) : ks_P l G yX11_key mX11_key (d + 5) [.ref 0, .int (nI c), .int (nI 1)] S (fun z S' => z = some (.int (nI (T.length + 65))) ∧ ks_up S S' [16, 18, 19, 9, 8, 10, 11, 12, 6, 5, 2, 1] ∧ cuI S' ∧ hsO S' ∧ (∃ ow, bfS S' 5 6 8000 ow) ∧ ∃ x y, afP (kG c) x y ∧ bfS S' 1 2 1600 (some (T ++ keyL true x y))) := by
  have h0 : S.2.2 0 = some (.inr (14, [.ref 1, .ref 3, .ref 5, .ref 7, .ref 14, .ref 20, .ref 27, .ref 41, .ref 52, .ref 53, .ref 54, .ref 55, .int (nI dc), .int (nI dp), .long dt, .int rs])) := h0
  obtain ⟨len, g, kg, hl16, e2, e1, ⟨hl, hg⟩⟩ := id hT
  obtain ⟨lw, gw, -, -, -, h5, -⟩ := id hw
  refine ks_of (by decide) rfl rfl (Nat.le_of_ble_eq_true rfl) ?_
  show ks_X l G mX11_key (d + 5) 0 [(0, .ref 0), (1, .int (nI c)), (2, .int (nI 1))] [] S _
  refine ks_iload_n dX11_key_0 rfl rfl ?_
  refine ks_iconst (x := nI 1) dX11_key_1 (by decide) rfl ?_
  refine ks_icmp_ltN (tgt := 14) (by omega) (by decide) dX11_key_2 (by decide) rfl (fun h1 => absurd h1 (by omega)) (fun h1 => ?_)
  refine ks_iload_n dX11_key_5 rfl rfl ?_
  refine ks_if_ltN (tgt := 14) (by decide) dX11_key_6 (by decide) rfl ?_
  refine ks_iload_n dX11_key_9 rfl rfl ?_
  refine ks_iconst (x := nI 2) dX11_key_10 (by decide) rfl ?_
  refine ks_icmp_leN (tgt := 22) (by decide) (by decide) dX11_key_11 (by decide) rfl (fun _ => ?_) (fun h => absurd h (by decide))
  refine ks_iload_n dX11_key_22 rfl rfl ?_
  refine ks_if_neN (tgt := 31) (by decide) dX11_key_23 (by decide) rfl (fun _ => ?_) (fun h => absurd h (by decide))
  refine ks_iload_n dX11_key_31 rfl rfl ?_
  refine ks_iconst (x := nI 1) dX11_key_32 (by decide) rfl ?_
  refine ks_icmp_neN (tgt := 41) (by decide) (by decide) dX11_key_33 (by decide) rfl (fun h => absurd h (by decide)) (fun _ => ?_)
  refine ks_bipush (x := nI 65) dX11_key_36 (by decide) rfl ?_
  refine ks_goto (tgt := 43) dX11_key_38 (by decide) ?_
  refine ks_istore_n dX11_key_43 (by decide) rfl ?_
  refine ks_sub [(3, _), (0, _), (1, _), (2, _)] rfl ?_
  refine ks_aload_n dX11_key_44 rfl rfl ?_
  refine ks_getf (T := TX11) (kf := 0) kx_1053 rfl in_X11 cl_X11 (by decide) h0 rfl dX11_key_45 rfl ?_
  refine ks_getf (T := TX1) (kf := 1) kx_59 rfl in_X1 cl_X1 (by decide) e1 rfl dX11_key_48 rfl ?_
  refine ks_iload_n dX11_key_51 rfl rfl ?_
  refine ks_addN dX11_key_52 rfl ?_
  refine ks_sipush (x := nI 1600) dX11_key_53 (by decide) rfl ?_
  refine ks_icmp_leN (tgt := 67) (by omega) (by decide) dX11_key_56 (by decide) rfl (fun h2 => ?_) (fun h2 => absurd h2 (by omega))
  refine ks_aload_n dX11_key_67 rfl rfl ?_
  refine ks_getf (T := TX11) (kf := 2) kx_1055 rfl in_X11 cl_X11 (by decide) h0 rfl dX11_key_68 rfl ?_
  refine ks_callV (n := 0) (M' := mX1_clear) (bf_clear (d := d + 4) hw) h5 cl_X1 rfl kx_842 kx_843 kx_844 kx_2 kx_845 (by decide +kernel) rfl (by decide) (Nat.le_of_ble_eq_true rfl) rfl dX11_key_71 rfl (fun z1 T1 y1 => ?_)
  obtain ⟨rfl, w1, B1⟩ := y1
  have a0 := w1.at h0 (by decide)
  have I1 := hI.up w1 (by decide)
  have hh1 := hh.up w1 (by decide)
  have K1 := w1.st hK (by unfold ks_B; decide)
  have t1 := hT.up w1 (by decide) (by decide)
  obtain ⟨lw1, gw1, -, -, -, a5, -⟩ := id B1
  have O14 : ∃ fs, T1.2.2 14 = some (.inr (6, fs)) := by obtain ⟨ir, R, Q, ⟨⟨c1, -, -⟩, -, -⟩, -⟩ := I1; exact ⟨_, c1⟩
  obtain ⟨fs14, O14⟩ := O14
  refine ks_aload_n dX11_key_74 rfl rfl ?_
  refine ks_getf (T := TX11) (kf := 4) kx_1057 rfl in_X11 cl_X11 (by decide) a0 rfl dX11_key_75 rfl ?_
  refine ks_iload_n dX11_key_78 rfl rfl ?_
  refine ks_iload_n dX11_key_79 rfl rfl ?_
  refine ks_iconst (x := nI 1) dX11_key_80 (by decide) rfl ?_
  refine ks_icmp_neN (tgt := 88) (by decide) (by decide) dX11_key_81 (by decide) rfl (fun h => absurd h (by decide)) (fun _ => ?_)
  refine ks_iconst (x := nI 1) dX11_key_84 (by decide) rfl ?_
  refine ks_goto (tgt := 89) dX11_key_85 (by decide) ?_
  refine ks_ti (y := ks_bo true) rfl ?_
  refine ks_aload_n dX11_key_89 rfl rfl ?_
  refine ks_getf (T := TX11) (kf := 2) kx_1055 rfl in_X11 cl_X11 (by decide) a0 rfl dX11_key_90 rfl ?_
  refine ks_callV (n := 3) (M' := mX3_writeKey) (c_cv_writeKey (d := d) (wh := true) I1 B1 (by decide) (by rw [List.length_nil]; decide) hc (by decide) (by decide)) O14 cl_X3 rfl kx_1178 kx_1179 kx_1180 kx_4 kx_1181 (by decide +kernel) rfl (by decide) (Nat.le_of_ble_eq_true rfl) rfl dX11_key_93 rfl (fun z2 T2 y2 => ?_)
  obtain ⟨rfl, w2, I2, x, y, hxy, B2⟩ := y2
  rw [List.nil_append] at B2
  have b0 := w2.at a0 (by decide)
  have hh2 := hh1.up w2 (by decide)
  have t2 := t1.up w2 (by decide) (by decide)
  have K2 := w2.st K1 (by unfold ks_B; decide)
  have kl := keyL_len true x y
  obtain ⟨lw2, gw2, kg2, lw8, e6, a5b, ⟨q2, hg2⟩⟩ := id B2
  obtain ⟨len2, g2, -, -, -, a1, ⟨q1, -⟩⟩ := id t2
  have O7 := hh2.1
  refine ks_iload_n dX11_key_96 rfl rfl ?_
  refine ks_iconst (x := nI 2) dX11_key_97 (by decide) rfl ?_
  refine ks_icmp_neN (tgt := 131) (by decide) (by decide) dX11_key_98 (by decide) rfl (fun _ => ?_) (fun h => absurd h (by decide))
  refine ks_aload_n dX11_key_131 rfl rfl ?_
  refine ks_getf (T := TX11) (kf := 0) kx_1053 rfl in_X11 cl_X11 (by decide) b0 rfl dX11_key_132 rfl ?_
  refine ks_aload_n dX11_key_135 rfl rfl ?_
  refine ks_getf (T := TX11) (kf := 2) kx_1055 rfl in_X11 cl_X11 (by decide) b0 rfl dX11_key_136 rfl ?_
  refine ks_getf (T := TX1) (kf := 0) kx_54 rfl in_X1 cl_X1 (by decide) a5b rfl dX11_key_139 rfl ?_
  refine ks_iconst (x := nI 0) dX11_key_142 (by decide) rfl ?_
  refine ks_iload_n dX11_key_143 rfl rfl ?_
  refine ks_callV (n := 3) (M' := mX1_addBytes) (bf_bytes (d := d + 3) (i := 0) (n := 65) t2 (by decide) e6 kg2 (by decide) (by decide)) a1 cl_X1 rfl kx_910 kx_872 kx_873 kx_2 kx_874 (by decide +kernel) rfl (by decide) (Nat.le_of_ble_eq_true rfl) rfl dX11_key_144 rfl (fun z4 T4 y4 => ?_)
  obtain ⟨rfl, w4, t4⟩ := y4
  have eb : bytL gw2 0 65 = keyL true x y := by
    have e9 : lw2 = 65 := by rw [← q2, kl]; rfl
    refine List.ext_getElem (by rw [bytL_len, kl]; rfl) (fun k h1 h2 => ?_)
    simp only [bytL, List.getElem_map, List.getElem_range, Nat.zero_add]
    rw [hg2 k (by rw [← q2]; exact h2)]
    simp [List.getD, h2]
  rw [eb, bfA_ok (by rw [kl]; show T.length + 65 ≤ 1600; omega)] at t4
  have u4 : ks_up S T4 [16, 18, 19, 9, 8, 10, 11, 12, 6, 5, 2, 1] := ((w1.mono (by decide)).trans (w2.mono (by decide))).trans (w4.mono (by decide))
  have I4 := I2.up w4 (by decide)
  have hh4 := hh2.up w4 (by decide)
  have B4 := B2.up w4 (by decide) (by decide)
  have d0 : T4.2.2 0 = some (.inr (14, [.ref 1, .ref 3, .ref 5, .ref 7, .ref 14, .ref 20, .ref 27, .ref 41, .ref 52, .ref 53, .ref 54, .ref 55, .int (nI dc), .int (nI dp), .long dt, .int rs])) := u4.at h0 (by decide)
  obtain ⟨len4, g4, -, -, -, a1c, ⟨q4, -⟩⟩ := id t4
  refine ks_aload_n dX11_key_147 rfl rfl ?_
  refine ks_getf (T := TX11) (kf := 0) kx_1053 rfl in_X11 cl_X11 (by decide) d0 rfl dX11_key_148 rfl ?_
  refine ks_getf (T := TX1) (kf := 1) kx_59 rfl in_X1 cl_X1 (by decide) a1c rfl dX11_key_151 rfl ?_
  refine ks_iret rfl dX11_key_154 ?_
  rw [← q4, List.length_append, kl, show (if true = true then 65 else 33) = 65 from rfl]
  exact ⟨rfl, u4, I4, hh4, ⟨_, B4⟩, x, y, hxy, t4⟩
set_option maxRecDepth 100000 in
set_option maxHeartbeats 800000 in
theorem c_jd_key2 {l : Launch} {G : ks_G} {d : Nat} {S : ks_S} {dc dp : Nat} {dt : Int64} {rs : Int32} (h0 : S.2.2 0 = some (jdO dc dp dt rs)) {T : List Nat} (hT : bfS S 1 2 1600 (some T)) {ow : Option (List Nat)} {c : Nat} (hc1 : 1 ≤ c) (hc : c < 2 ^ 31) (hw : bfS S 5 6 8000 ow) (hI : cuI S) (hh : hsO S) (hK : ks_stOK S) (hf : T.length + 20 ≤ 1600) : ks_P l G yX11_key mX11_key (d + 5) [.ref 0, .int (nI c), .int (nI 2)] S (fun z S' => z = some (.int (nI (T.length + 20))) ∧ ks_up S S' [16, 18, 19, 9, 8, 10, 11, 12, 6, 5, 2, 1] ∧ cuI S' ∧ hsO S' ∧ (∃ ow, bfS S' 5 6 8000 ow) ∧ ∃ x y, afP (kG c) x y ∧ bfS S' 1 2 1600 (some (T ++ bytL (h160_ (mg (keyL false x y)) 33) 0 20))) := by
  have h0 : S.2.2 0 = some (.inr (14, [.ref 1, .ref 3, .ref 5, .ref 7, .ref 14, .ref 20, .ref 27, .ref 41, .ref 52, .ref 53, .ref 54, .ref 55, .int (nI dc), .int (nI dp), .long dt, .int rs])) := h0
  obtain ⟨len, g, kg, hl16, e2, e1, ⟨hl, hg⟩⟩ := id hT
  obtain ⟨lw, gw, -, -, -, h5, -⟩ := id hw
  refine ks_of (by decide) rfl rfl (Nat.le_of_ble_eq_true rfl) ?_
  show ks_X l G mX11_key (d + 5) 0 [(0, .ref 0), (1, .int (nI c)), (2, .int (nI 2))] [] S _
  refine ks_iload_n dX11_key_0 rfl rfl ?_
  refine ks_iconst (x := nI 1) dX11_key_1 (by decide) rfl ?_
  refine ks_icmp_ltN (tgt := 14) (by omega) (by decide) dX11_key_2 (by decide) rfl (fun h1 => absurd h1 (by omega)) (fun h1 => ?_)
  refine ks_iload_n dX11_key_5 rfl rfl ?_
  refine ks_if_ltN (tgt := 14) (by decide) dX11_key_6 (by decide) rfl ?_
  refine ks_iload_n dX11_key_9 rfl rfl ?_
  refine ks_iconst (x := nI 2) dX11_key_10 (by decide) rfl ?_
  refine ks_icmp_leN (tgt := 22) (by decide) (by decide) dX11_key_11 (by decide) rfl (fun _ => ?_) (fun h => absurd h (by decide))
  refine ks_iload_n dX11_key_22 rfl rfl ?_
  refine ks_if_neN (tgt := 31) (by decide) dX11_key_23 (by decide) rfl (fun _ => ?_) (fun h => absurd h (by decide))
  refine ks_iload_n dX11_key_31 rfl rfl ?_
  refine ks_iconst (x := nI 1) dX11_key_32 (by decide) rfl ?_
  refine ks_icmp_neN (tgt := 41) (by decide) (by decide) dX11_key_33 (by decide) rfl (fun _ => ?_) (fun h => absurd h (by decide))
  refine ks_bipush (x := nI 20) dX11_key_41 (by decide) rfl ?_
  refine ks_istore_n dX11_key_43 (by decide) rfl ?_
  refine ks_sub [(3, _), (0, _), (1, _), (2, _)] rfl ?_
  refine ks_aload_n dX11_key_44 rfl rfl ?_
  refine ks_getf (T := TX11) (kf := 0) kx_1053 rfl in_X11 cl_X11 (by decide) h0 rfl dX11_key_45 rfl ?_
  refine ks_getf (T := TX1) (kf := 1) kx_59 rfl in_X1 cl_X1 (by decide) e1 rfl dX11_key_48 rfl ?_
  refine ks_iload_n dX11_key_51 rfl rfl ?_
  refine ks_addN dX11_key_52 rfl ?_
  refine ks_sipush (x := nI 1600) dX11_key_53 (by decide) rfl ?_
  refine ks_icmp_leN (tgt := 67) (by omega) (by decide) dX11_key_56 (by decide) rfl (fun h2 => ?_) (fun h2 => absurd h2 (by omega))
  refine ks_aload_n dX11_key_67 rfl rfl ?_
  refine ks_getf (T := TX11) (kf := 2) kx_1055 rfl in_X11 cl_X11 (by decide) h0 rfl dX11_key_68 rfl ?_
  refine ks_callV (n := 0) (M' := mX1_clear) (bf_clear (d := d + 4) hw) h5 cl_X1 rfl kx_842 kx_843 kx_844 kx_2 kx_845 (by decide +kernel) rfl (by decide) (Nat.le_of_ble_eq_true rfl) rfl dX11_key_71 rfl (fun z1 T1 y1 => ?_)
  obtain ⟨rfl, w1, B1⟩ := y1
  have a0 := w1.at h0 (by decide)
  have I1 := hI.up w1 (by decide)
  have hh1 := hh.up w1 (by decide)
  have K1 := w1.st hK (by unfold ks_B; decide)
  have t1 := hT.up w1 (by decide) (by decide)
  obtain ⟨lw1, gw1, -, -, -, a5, -⟩ := id B1
  have O14 : ∃ fs, T1.2.2 14 = some (.inr (6, fs)) := by obtain ⟨ir, R, Q, ⟨⟨c1, -, -⟩, -, -⟩, -⟩ := I1; exact ⟨_, c1⟩
  obtain ⟨fs14, O14⟩ := O14
  refine ks_aload_n dX11_key_74 rfl rfl ?_
  refine ks_getf (T := TX11) (kf := 4) kx_1057 rfl in_X11 cl_X11 (by decide) a0 rfl dX11_key_75 rfl ?_
  refine ks_iload_n dX11_key_78 rfl rfl ?_
  refine ks_iload_n dX11_key_79 rfl rfl ?_
  refine ks_iconst (x := nI 1) dX11_key_80 (by decide) rfl ?_
  refine ks_icmp_neN (tgt := 88) (by decide) (by decide) dX11_key_81 (by decide) rfl (fun _ => ?_) (fun h => absurd h (by decide))
  refine ks_iconst (x := nI 0) dX11_key_88 (by decide) rfl ?_
  refine ks_ti (y := ks_bo false) rfl ?_
  refine ks_aload_n dX11_key_89 rfl rfl ?_
  refine ks_getf (T := TX11) (kf := 2) kx_1055 rfl in_X11 cl_X11 (by decide) a0 rfl dX11_key_90 rfl ?_
  refine ks_callV (n := 3) (M' := mX3_writeKey) (c_cv_writeKey (d := d) (wh := false) I1 B1 (by decide) (by rw [List.length_nil]; decide) hc (by decide) (by decide)) O14 cl_X3 rfl kx_1178 kx_1179 kx_1180 kx_4 kx_1181 (by decide +kernel) rfl (by decide) (Nat.le_of_ble_eq_true rfl) rfl dX11_key_93 rfl (fun z2 T2 y2 => ?_)
  obtain ⟨rfl, w2, I2, x, y, hxy, B2⟩ := y2
  rw [List.nil_append] at B2
  have b0 := w2.at a0 (by decide)
  have hh2 := hh1.up w2 (by decide)
  have t2 := t1.up w2 (by decide) (by decide)
  have K2 := w2.st K1 (by unfold ks_B; decide)
  have kl := keyL_len false x y
  obtain ⟨lw2, gw2, kg2, lw8, e6, a5b, ⟨q2, hg2⟩⟩ := id B2
  obtain ⟨len2, g2, -, -, -, a1, ⟨q1, -⟩⟩ := id t2
  have O7 := hh2.1
  refine ks_iload_n dX11_key_96 rfl rfl ?_
  refine ks_iconst (x := nI 2) dX11_key_97 (by decide) rfl ?_
  refine ks_icmp_neN (tgt := 131) (by decide) (by decide) dX11_key_98 (by decide) rfl (fun h => absurd h (by decide)) (fun _ => ?_)
  refine ks_aload_n dX11_key_101 rfl rfl ?_
  refine ks_getf (T := TX11) (kf := 3) kx_1056 rfl in_X11 cl_X11 (by decide) b0 rfl dX11_key_102 rfl ?_
  refine ks_aload_n dX11_key_105 rfl rfl ?_
  refine ks_getf (T := TX11) (kf := 2) kx_1055 rfl in_X11 cl_X11 (by decide) b0 rfl dX11_key_106 rfl ?_
  refine ks_getf (T := TX1) (kf := 0) kx_54 rfl in_X1 cl_X1 (by decide) a5b rfl dX11_key_109 rfl ?_
  refine ks_iconst (x := nI 0) dX11_key_112 (by decide) rfl ?_
  refine ks_aload_n dX11_key_113 rfl rfl ?_
  refine ks_getf (T := TX11) (kf := 2) kx_1055 rfl in_X11 cl_X11 (by decide) b0 rfl dX11_key_114 rfl ?_
  refine ks_getf (T := TX1) (kf := 1) kx_59 rfl in_X1 cl_X1 (by decide) a5b rfl dX11_key_117 rfl ?_
  refine ks_aload_n dX11_key_120 rfl rfl ?_
  refine ks_getf (T := TX11) (kf := 2) kx_1055 rfl in_X11 cl_X11 (by decide) b0 rfl dX11_key_121 rfl ?_
  refine ks_getf (T := TX1) (kf := 0) kx_54 rfl in_X1 cl_X1 (by decide) a5b rfl dX11_key_124 rfl ?_
  refine ks_iconst (x := nI 0) dX11_key_127 (by decide) rfl ?_
  refine ks_callV (n := 5) (M' := mX6_hash160) (c_hash160 (d := d) hh2 hs_neO (i := 0) (n := lw2) (oa := 0) e6 kg2 (by omega) (by decide) e6 kg2 (by decide) (by decide) K2 (by decide) (by decide) (by decide)) O7 cl_X6 rfl kx_1218 kx_1219 kx_1220 kx_3 kx_1221 (by decide +kernel) rfl (by decide) (Nat.le_of_ble_eq_true rfl) rfl dX11_key_128 rfl (fun z3 T3 y3 => ?_)
  obtain ⟨rfl, w3, hh3, e6b⟩ := y3
  have c0 := w3.at b0 (by decide)
  have t3 := t2.up w3 (by decide) (by decide)
  have a5c := w3.at a5b (by decide)
  have I3 := I2.up w3 (by decide)
  have k6 : kO (ks_pt (h160_ (fun k => gw2 (0 + k)) lw2) gw2 0 20) := kO_pt (kO_h160 _ _) kg2 0 20
  have l33 : lw2 = 33 := by rw [← q2, kl]; rfl
  have e33 : bytL (ks_pt (h160_ (fun k => gw2 (0 + k)) lw2) gw2 0 20) 0 20 = bytL (h160_ (mg (keyL false x y)) 33) 0 20 := bytL_c (fun k hk => by
    rw [ks_pt_in _ _ _ _ hk, Nat.zero_add, l33]
    exact congrFun (h160_congr (fun j hj => by rw [Nat.zero_add]; exact hg2 j (by omega))) k)
  have B3 : ∃ o3, bfS T3 5 6 8000 o3 := ⟨some (bytL (ks_pt (h160_ (fun k => gw2 (0 + k)) lw2) gw2 0 20) 0 lw2), lw2, _, k6, lw8, e6b, a5c, bytL_len _ _ _, fun j hj => by simp [bytL, List.getD, hj]⟩
  obtain ⟨len3, g3, -, -, -, a1b, ⟨q3, -⟩⟩ := id t3
  refine ks_aload_n dX11_key_131 rfl rfl ?_
  refine ks_getf (T := TX11) (kf := 0) kx_1053 rfl in_X11 cl_X11 (by decide) c0 rfl dX11_key_132 rfl ?_
  refine ks_aload_n dX11_key_135 rfl rfl ?_
  refine ks_getf (T := TX11) (kf := 2) kx_1055 rfl in_X11 cl_X11 (by decide) c0 rfl dX11_key_136 rfl ?_
  refine ks_getf (T := TX1) (kf := 0) kx_54 rfl in_X1 cl_X1 (by decide) a5c rfl dX11_key_139 rfl ?_
  refine ks_iconst (x := nI 0) dX11_key_142 (by decide) rfl ?_
  refine ks_iload_n dX11_key_143 rfl rfl ?_
  refine ks_callV (n := 3) (M' := mX1_addBytes) (bf_bytes (d := d + 3) (i := 0) (n := 20) t3 (by decide) e6b k6 (by decide) (by decide)) a1b cl_X1 rfl kx_910 kx_872 kx_873 kx_2 kx_874 (by decide +kernel) rfl (by decide) (Nat.le_of_ble_eq_true rfl) rfl dX11_key_144 rfl (fun z4 T4 y4 => ?_)
  obtain ⟨rfl, w4, t4⟩ := y4
  rw [e33, bfA_ok (by rw [bytL_len]; omega)] at t4
  have u4 : ks_up S T4 [16, 18, 19, 9, 8, 10, 11, 12, 6, 5, 2, 1] := (((w1.mono (by decide)).trans (w2.mono (by decide))).trans (w3.mono (by decide))).trans (w4.mono (by decide))
  have I4 := I3.up w4 (by decide)
  have hh4 := hh3.up w4 (by decide)
  obtain ⟨o3, B3⟩ := B3
  have B4 := B3.up w4 (by decide) (by decide)
  have d0 : T4.2.2 0 = some (.inr (14, [.ref 1, .ref 3, .ref 5, .ref 7, .ref 14, .ref 20, .ref 27, .ref 41, .ref 52, .ref 53, .ref 54, .ref 55, .int (nI dc), .int (nI dp), .long dt, .int rs])) := u4.at h0 (by decide)
  obtain ⟨len4, g4, -, -, -, a1c, ⟨q4, -⟩⟩ := id t4
  refine ks_aload_n dX11_key_147 rfl rfl ?_
  refine ks_getf (T := TX11) (kf := 0) kx_1053 rfl in_X11 cl_X11 (by decide) d0 rfl dX11_key_148 rfl ?_
  refine ks_getf (T := TX1) (kf := 1) kx_59 rfl in_X1 cl_X1 (by decide) a1c rfl dX11_key_151 rfl ?_
  refine ks_iret rfl dX11_key_154 ?_
  rw [← q4, List.length_append, bytL_len]
  exact ⟨rfl, u4, I4, hh4, ⟨_, B4⟩, x, y, hxy, t4⟩
