/-! THE JUDGE: sealing that doesn't fit, judging that refuses -/
set_option maxRecDepth 100000 in
set_option maxHeartbeats 800000 in
theorem t_sealF0 {l : Launch} {G : ks_G} {d : Nat} {S : ks_S} (htr : l.stackTraces = false) (hSB : S.1 < ks_B) {dc dp : Nat} {dt : Int64} {rs : Int32} (h0 : S.2.2 0 = some (jdO dc dp dt rs)) {n best : Nat} {cc : Int32} {tk : Int64} {B : Nat → Bk} (hX : chX S n best cc tk B) {Ds : Nat → dTx} {od ow : Option (List Nat)} {gi0 gr0 : Nat → Nat} {N0 : Nat} (hD : dfS S Ds) (hdc : dc ≤ 12) (hK : ks_stOK S) (hh : hsO S) (hw : bfS S 5 6 8000 ow) (hd : bfS S 3 4 1600 od) (h53 : S.2.2 53 = some (kB 384 gi0)) (kg0 : kO gi0) (h54 : S.2.2 54 = some (kB 32 gr0)) (kr0 : kO gr0) (h55 : S.2.2 55 = some (kB 32 (fun _ => 0))) (hTg : tg_ok S N0) (hW : chW n B) (hdp : dp < n) (hhei : ∀ i, i < n → bkH (B i) < 2 ^ 30) (hdb : dueB B dp < 2 ^ 32) (hb9 : 284 ≤ bkN (B dp)) (hfit : ¬ (slM 0 B dp dt Ds dc).length ≤ 1600) : kt_P l G yX11_seal mX11_seal (d + 9) [.ref 0, .int (nI 0)] S (fun z S' => z = some (.int (nI 0)) ∧ ∃ S2, S' = ks_one S2 ∧ ks_up S S2 [45, 3, 4, 5, 6, 9, 8, 10, 11, 12, 13, 53, 54] ∧ hsO S2 ∧ (∃ N, tg_ok S2 N) ∧ (∃ ow, bfS S2 5 6 8000 ow) ∧ (∃ od, bfS S2 3 4 1600 od) ∧ (∃ g, kO g ∧ S2.2.2 53 = some (kB 384 g)) ∧ (∃ g, kO g ∧ S2.2.2 54 = some (kB 32 g))) := by
  have h0j := h0
  have h0 : S.2.2 0 = some (.inr (14, [.ref 1, .ref 3, .ref 5, .ref 7, .ref 14, .ref 20, .ref 27, .ref 41, .ref 52, .ref 53, .ref 54, .ref 55, .int (nI dc), .int (nI dp), .long dt, .int rs])) := h0
  obtain ⟨hO, ⟨bf, h42, hbf⟩, hB, hn60⟩ := id hX
  obtain ⟨g1y, f2y, g3y, g4y, oy, ley, egy, bly, sty, idy, hsy, coy⟩ := hB dp (by omega)
  refine kt_of htr (by decide) rfl rfl (Nat.le_of_ble_eq_true rfl) ?_
  show ks_Y l G mX11_seal (d + 9) 0 [(0, .ref 0), (1, .int (nI 0))] [] S _
  refine kt_iload_n dX11_seal_0 rfl rfl ?_
  refine kt_if_ltN (tgt := 9) (by decide) dX11_seal_1 (by decide) rfl ?_
  refine kt_iload_n dX11_seal_4 rfl rfl ?_
  refine kt_iconst (x := nI 5) dX11_seal_5 (by decide) rfl ?_
  refine kt_icmp_leN (tgt := 17) (by decide) (by decide) dX11_seal_6 (by decide) rfl (fun _ => ?_) (fun h => absurd h (by decide))
  refine kt_aload_n dX11_seal_17 rfl rfl ?_
  refine kt_getf (T := TX11) (kf := 7) kx_1060 rfl in_X11 cl_X11 (by decide) h0 rfl dX11_seal_18 rfl ?_
  refine kt_aload_n dX11_seal_21 rfl rfl ?_
  refine kt_getf (T := TX11) (kf := 13) kx_1066 rfl in_X11 cl_X11 (by decide) h0 rfl dX11_seal_22 rfl ?_
  refine kt_callV (n := 1) (M' := mX2_dueBits) (c_ch_dueBits (d := d + 5) hX hW hdp hTg hhei) hO cl_X2 rfl kx_1392 kx_1393 kx_1394 kx_26 kx_1395 (by decide +kernel) rfl (by decide) (Nat.le_of_ble_eq_true rfl) rfl dX11_seal_25 rfl (fun z1 T1 y1 => ?_)
  obtain ⟨rfl, w1, N1, Tg1⟩ := y1
  have a0 := w1.at h0 (by decide)
  have a0j : T1.2.2 0 = some (jdO dc dp dt rs) := a0
  have X1 := hX.up w1 (by decide)
  obtain ⟨hO1, ⟨bf1, h421, hbf1⟩, hB1, -⟩ := id X1
  have l45 : ∀ x ∈ ([45] : List Nat), x < 56 := by decide
  have oy1 := oy.up w1 (fun x hx => by have := l45 x hx; omega)
  obtain ⟨bt, hbt⟩ : ∃ b, dueB B dp = b := ⟨_, rfl⟩
  rw [hbt] at hdb ⊢
  refine kt_istore_n dX11_seal_28 (by decide) rfl ?_
  refine kt_sub [(2, _), (0, _), (1, _)] rfl ?_
  refine kt_aload_n dX11_seal_29 rfl rfl ?_
  refine kt_iload_n dX11_seal_30 rfl rfl ?_
  refine kt_aload_n dX11_seal_31 rfl rfl ?_
  refine kt_getf (T := TX11) (kf := 7) kx_1060 rfl in_X11 cl_X11 (by decide) a0 rfl dX11_seal_32 rfl ?_
  refine kt_getf (T := TX2) (kf := 0) kx_730 rfl in_X2 cl_X2 (by decide) hO1 rfl dX11_seal_35 rfl ?_
  refine kt_aload_n dX11_seal_38 rfl rfl ?_
  refine kt_getf (T := TX11) (kf := 13) kx_1066 rfl in_X11 cl_X11 (by decide) a0 rfl dX11_seal_39 rfl ?_
  refine kt_aaldN (i := dp) (b := (bkN (B dp))) (by decide) h421 rfl (by omega) (by decide) (hbf1 dp (by omega)) dX11_seal_42 rfl ?_
  refine kt_getf (T := TX0) (kf := 3) kx_944 rfl in_X0 cl_X0 (by decide) oy1.1 rfl dX11_seal_43 rfl ?_
  refine kt_iload_n dX11_seal_46 rfl rfl ?_
  refine kt_callV (n := 3) (M' := mX11_draw) (c_jd_draw0 (d := d + 2) a0j (hD.up w1 (by decide)) hdc (w1.st hK (by unfold ks_B; decide)) (hh.up w1 (by decide)) (hw.up w1 (by decide) (by decide)) (hd.up w1 (by decide) (by decide)) (w1.at h53 (by decide)) kg0 (w1.at h54 (by decide)) kr0 (w1.at h55 (by decide)) oy1.2.2.2.2.1 oy1.2.2.2.2.2.2.2.1 (by omega)) a0 cl_X11 rfl kx_854 kx_856 kxp_6 kx_1 kx_857 (by decide +kernel) rfl (by decide) (Nat.le_of_ble_eq_true rfl) rfl dX11_seal_47 rfl (fun z2 T2 y2 => ?_)
  obtain ⟨rfl, w2, hh2, ⟨ow2, W2⟩, ⟨g53, k53, e53⟩, ⟨g54, k54, e54⟩, B2⟩ := y2
  have ehs : bytL g4y 0 32 = bytL (hsB (bkM (B dp))) 0 32 := bytL_c (fun k hk => by rw [Nat.zero_add]; exact hsy k hk)
  have eM : drC (drH 0 (bytL g4y 0 32) dt (nI bt) Ds dc ++ cntL dc) Ds dc = none := by
    unfold drC
    rw [ehs, ← hbt]
    exact if_neg hfit
  rw [eM] at B2
  have B2' := B2
  obtain ⟨l3, g3, -, -, -, a3, -⟩ := B2'
  have b0 := w2.at a0 (by decide)
  have Tg2 : tg_ok T2 N1 := Tg1.up w2 (by decide) (by decide) (fun h => absurd h (by decide)) (fun h => absurd h (by decide))
  refine kt_aload_n dX11_seal_50 rfl rfl ?_
  refine kt_getf (T := TX11) (kf := 1) kx_1054 rfl in_X11 cl_X11 (by decide) b0 rfl dX11_seal_51 rfl ?_
  refine kt_getf (T := TX1) (kf := 2) kx_66 rfl in_X1 cl_X1 (by decide) a3 rfl dX11_seal_54 rfl ?_
  refine kt_if_eqN (tgt := 68) (by decide) dX11_seal_57 (by decide) rfl (fun h => absurd h (by decide)) (fun _ => ?_)
  exact kt_throw (k := 0) (names := ["java/lang/RuntimeException", "java/lang/Exception"]) rfl (by decide +kernel) (by decide +kernel) tw_cl0 tw_in0 tw_at0 (by decide) (Nat.le_of_ble_eq_true rfl) (by rw [w2.1, w1.1]; exact hSB) dX11_seal_60 dX11_seal_63 dX11_seal_64 dX11_seal_67 ⟨rfl, T2, rfl, (w1.mono (by decide)).trans (w2.mono (by decide)), hh2, ⟨N1, Tg2⟩, ⟨ow2, W2⟩, ⟨none, B2⟩, ⟨g53, k53, e53⟩, ⟨g54, k54, e54⟩⟩
set_option maxRecDepth 100000 in
set_option maxHeartbeats 800000 in
theorem t_sealF1 {l : Launch} {G : ks_G} {d : Nat} {S : ks_S} (htr : l.stackTraces = false) (hSB : S.1 < ks_B) {dc dp : Nat} {dt : Int64} {rs : Int32} (h0 : S.2.2 0 = some (jdO dc dp dt rs)) {n best : Nat} {cc : Int32} {tk : Int64} {B : Nat → Bk} (hX : chX S n best cc tk B) {Ds : Nat → dTx} {od ow : Option (List Nat)} {gi0 gr0 : Nat → Nat} {N0 : Nat} (hD : dfS S Ds) (hdc : dc ≤ 12) (hK : ks_stOK S) (hh : hsO S) (hw : bfS S 5 6 8000 ow) (hd : bfS S 3 4 1600 od) (h53 : S.2.2 53 = some (kB 384 gi0)) (kg0 : kO gi0) (h54 : S.2.2 54 = some (kB 32 gr0)) (kr0 : kO gr0) (h55 : S.2.2 55 = some (kB 32 (fun _ => 0))) (hTg : tg_ok S N0) (hW : chW n B) (hdp : dp < n) (hhei : ∀ i, i < n → bkH (B i) < 2 ^ 30) (hdb : dueB B dp < 2 ^ 32) (hb9 : 284 ≤ bkN (B dp)) (hfit : ¬ (slM 1 B dp dt Ds dc).length ≤ 1600) : kt_P l G yX11_seal mX11_seal (d + 9) [.ref 0, .int (nI 1)] S (fun z S' => z = some (.int (nI 0)) ∧ ∃ S2, S' = ks_one S2 ∧ ks_up S S2 [45, 3, 4, 5, 6, 9, 8, 10, 11, 12, 13, 53, 54] ∧ hsO S2 ∧ (∃ N, tg_ok S2 N) ∧ (∃ ow, bfS S2 5 6 8000 ow) ∧ (∃ od, bfS S2 3 4 1600 od) ∧ (∃ g, kO g ∧ S2.2.2 53 = some (kB 384 g)) ∧ (∃ g, kO g ∧ S2.2.2 54 = some (kB 32 g))) := by
  have h0j := h0
  have h0 : S.2.2 0 = some (.inr (14, [.ref 1, .ref 3, .ref 5, .ref 7, .ref 14, .ref 20, .ref 27, .ref 41, .ref 52, .ref 53, .ref 54, .ref 55, .int (nI dc), .int (nI dp), .long dt, .int rs])) := h0
  obtain ⟨hO, ⟨bf, h42, hbf⟩, hB, hn60⟩ := id hX
  obtain ⟨g1y, f2y, g3y, g4y, oy, ley, egy, bly, sty, idy, hsy, coy⟩ := hB dp (by omega)
  refine kt_of htr (by decide) rfl rfl (Nat.le_of_ble_eq_true rfl) ?_
  show ks_Y l G mX11_seal (d + 9) 0 [(0, .ref 0), (1, .int (nI 1))] [] S _
  refine kt_iload_n dX11_seal_0 rfl rfl ?_
  refine kt_if_ltN (tgt := 9) (by decide) dX11_seal_1 (by decide) rfl ?_
  refine kt_iload_n dX11_seal_4 rfl rfl ?_
  refine kt_iconst (x := nI 5) dX11_seal_5 (by decide) rfl ?_
  refine kt_icmp_leN (tgt := 17) (by decide) (by decide) dX11_seal_6 (by decide) rfl (fun _ => ?_) (fun h => absurd h (by decide))
  refine kt_aload_n dX11_seal_17 rfl rfl ?_
  refine kt_getf (T := TX11) (kf := 7) kx_1060 rfl in_X11 cl_X11 (by decide) h0 rfl dX11_seal_18 rfl ?_
  refine kt_aload_n dX11_seal_21 rfl rfl ?_
  refine kt_getf (T := TX11) (kf := 13) kx_1066 rfl in_X11 cl_X11 (by decide) h0 rfl dX11_seal_22 rfl ?_
  refine kt_callV (n := 1) (M' := mX2_dueBits) (c_ch_dueBits (d := d + 5) hX hW hdp hTg hhei) hO cl_X2 rfl kx_1392 kx_1393 kx_1394 kx_26 kx_1395 (by decide +kernel) rfl (by decide) (Nat.le_of_ble_eq_true rfl) rfl dX11_seal_25 rfl (fun z1 T1 y1 => ?_)
  obtain ⟨rfl, w1, N1, Tg1⟩ := y1
  have a0 := w1.at h0 (by decide)
  have a0j : T1.2.2 0 = some (jdO dc dp dt rs) := a0
  have X1 := hX.up w1 (by decide)
  obtain ⟨hO1, ⟨bf1, h421, hbf1⟩, hB1, -⟩ := id X1
  have l45 : ∀ x ∈ ([45] : List Nat), x < 56 := by decide
  have oy1 := oy.up w1 (fun x hx => by have := l45 x hx; omega)
  obtain ⟨bt, hbt⟩ : ∃ b, dueB B dp = b := ⟨_, rfl⟩
  rw [hbt] at hdb ⊢
  refine kt_istore_n dX11_seal_28 (by decide) rfl ?_
  refine kt_sub [(2, _), (0, _), (1, _)] rfl ?_
  refine kt_aload_n dX11_seal_29 rfl rfl ?_
  refine kt_iload_n dX11_seal_30 rfl rfl ?_
  refine kt_aload_n dX11_seal_31 rfl rfl ?_
  refine kt_getf (T := TX11) (kf := 7) kx_1060 rfl in_X11 cl_X11 (by decide) a0 rfl dX11_seal_32 rfl ?_
  refine kt_getf (T := TX2) (kf := 0) kx_730 rfl in_X2 cl_X2 (by decide) hO1 rfl dX11_seal_35 rfl ?_
  refine kt_aload_n dX11_seal_38 rfl rfl ?_
  refine kt_getf (T := TX11) (kf := 13) kx_1066 rfl in_X11 cl_X11 (by decide) a0 rfl dX11_seal_39 rfl ?_
  refine kt_aaldN (i := dp) (b := (bkN (B dp))) (by decide) h421 rfl (by omega) (by decide) (hbf1 dp (by omega)) dX11_seal_42 rfl ?_
  refine kt_getf (T := TX0) (kf := 3) kx_944 rfl in_X0 cl_X0 (by decide) oy1.1 rfl dX11_seal_43 rfl ?_
  refine kt_iload_n dX11_seal_46 rfl rfl ?_
  refine kt_callV (n := 3) (M' := mX11_draw) (c_jd_draw1 (d := d + 2) a0j (hD.up w1 (by decide)) hdc (w1.st hK (by unfold ks_B; decide)) (hh.up w1 (by decide)) (hw.up w1 (by decide) (by decide)) (hd.up w1 (by decide) (by decide)) (w1.at h53 (by decide)) kg0 (w1.at h54 (by decide)) kr0 (w1.at h55 (by decide)) oy1.2.2.2.2.1 oy1.2.2.2.2.2.2.2.1 (by omega)) a0 cl_X11 rfl kx_854 kx_856 kxp_6 kx_1 kx_857 (by decide +kernel) rfl (by decide) (Nat.le_of_ble_eq_true rfl) rfl dX11_seal_47 rfl (fun z2 T2 y2 => ?_)
  obtain ⟨rfl, w2, hh2, ⟨ow2, W2⟩, ⟨g53, k53, e53⟩, ⟨g54, k54, e54⟩, B2⟩ := y2
  have ehs : bytL g4y 0 32 = bytL (hsB (bkM (B dp))) 0 32 := bytL_c (fun k hk => by rw [Nat.zero_add]; exact hsy k hk)
  have eM : drC (drH 1 (bytL g4y 0 32) dt (nI bt) Ds dc ++ cntL dc) Ds dc = none := by
    unfold drC
    rw [ehs, ← hbt]
    exact if_neg hfit
  rw [eM] at B2
  have B2' := B2
  obtain ⟨l3, g3, -, -, -, a3, -⟩ := B2'
  have b0 := w2.at a0 (by decide)
  have Tg2 : tg_ok T2 N1 := Tg1.up w2 (by decide) (by decide) (fun h => absurd h (by decide)) (fun h => absurd h (by decide))
  refine kt_aload_n dX11_seal_50 rfl rfl ?_
  refine kt_getf (T := TX11) (kf := 1) kx_1054 rfl in_X11 cl_X11 (by decide) b0 rfl dX11_seal_51 rfl ?_
  refine kt_getf (T := TX1) (kf := 2) kx_66 rfl in_X1 cl_X1 (by decide) a3 rfl dX11_seal_54 rfl ?_
  refine kt_if_eqN (tgt := 68) (by decide) dX11_seal_57 (by decide) rfl (fun h => absurd h (by decide)) (fun _ => ?_)
  exact kt_throw (k := 0) (names := ["java/lang/RuntimeException", "java/lang/Exception"]) rfl (by decide +kernel) (by decide +kernel) tw_cl0 tw_in0 tw_at0 (by decide) (Nat.le_of_ble_eq_true rfl) (by rw [w2.1, w1.1]; exact hSB) dX11_seal_60 dX11_seal_63 dX11_seal_64 dX11_seal_67 ⟨rfl, T2, rfl, (w1.mono (by decide)).trans (w2.mono (by decide)), hh2, ⟨N1, Tg2⟩, ⟨ow2, W2⟩, ⟨none, B2⟩, ⟨g53, k53, e53⟩, ⟨g54, k54, e54⟩⟩
set_option maxRecDepth 100000 in
set_option maxHeartbeats 800000 in
theorem t_sealF2 {l : Launch} {G : ks_G} {d : Nat} {S : ks_S} (htr : l.stackTraces = false) (hSB : S.1 < ks_B) {dc dp : Nat} {dt : Int64} {rs : Int32} (h0 : S.2.2 0 = some (jdO dc dp dt rs)) {n best : Nat} {cc : Int32} {tk : Int64} {B : Nat → Bk} (hX : chX S n best cc tk B) {Ds : Nat → dTx} {od ow : Option (List Nat)} {gi0 gr0 : Nat → Nat} {N0 : Nat} (hD : dfS S Ds) (hdc : dc ≤ 12) (hK : ks_stOK S) (hh : hsO S) (hw : bfS S 5 6 8000 ow) (hd : bfS S 3 4 1600 od) (h53 : S.2.2 53 = some (kB 384 gi0)) (kg0 : kO gi0) (h54 : S.2.2 54 = some (kB 32 gr0)) (kr0 : kO gr0) (h55 : S.2.2 55 = some (kB 32 (fun _ => 0))) (hTg : tg_ok S N0) (hW : chW n B) (hdp : dp < n) (hhei : ∀ i, i < n → bkH (B i) < 2 ^ 30) (hdb : dueB B dp < 2 ^ 32) (hb9 : 284 ≤ bkN (B dp)) (hfit : ¬ (slM 2 B dp dt Ds dc).length ≤ 1600) : kt_P l G yX11_seal mX11_seal (d + 9) [.ref 0, .int (nI 2)] S (fun z S' => z = some (.int (nI 0)) ∧ ∃ S2, S' = ks_one S2 ∧ ks_up S S2 [45, 3, 4, 5, 6, 9, 8, 10, 11, 12, 13, 53, 54] ∧ hsO S2 ∧ (∃ N, tg_ok S2 N) ∧ (∃ ow, bfS S2 5 6 8000 ow) ∧ (∃ od, bfS S2 3 4 1600 od) ∧ (∃ g, kO g ∧ S2.2.2 53 = some (kB 384 g)) ∧ (∃ g, kO g ∧ S2.2.2 54 = some (kB 32 g))) := by
  have h0j := h0
  have h0 : S.2.2 0 = some (.inr (14, [.ref 1, .ref 3, .ref 5, .ref 7, .ref 14, .ref 20, .ref 27, .ref 41, .ref 52, .ref 53, .ref 54, .ref 55, .int (nI dc), .int (nI dp), .long dt, .int rs])) := h0
  obtain ⟨hO, ⟨bf, h42, hbf⟩, hB, hn60⟩ := id hX
  obtain ⟨g1y, f2y, g3y, g4y, oy, ley, egy, bly, sty, idy, hsy, coy⟩ := hB dp (by omega)
  refine kt_of htr (by decide) rfl rfl (Nat.le_of_ble_eq_true rfl) ?_
  show ks_Y l G mX11_seal (d + 9) 0 [(0, .ref 0), (1, .int (nI 2))] [] S _
  refine kt_iload_n dX11_seal_0 rfl rfl ?_
  refine kt_if_ltN (tgt := 9) (by decide) dX11_seal_1 (by decide) rfl ?_
  refine kt_iload_n dX11_seal_4 rfl rfl ?_
  refine kt_iconst (x := nI 5) dX11_seal_5 (by decide) rfl ?_
  refine kt_icmp_leN (tgt := 17) (by decide) (by decide) dX11_seal_6 (by decide) rfl (fun _ => ?_) (fun h => absurd h (by decide))
  refine kt_aload_n dX11_seal_17 rfl rfl ?_
  refine kt_getf (T := TX11) (kf := 7) kx_1060 rfl in_X11 cl_X11 (by decide) h0 rfl dX11_seal_18 rfl ?_
  refine kt_aload_n dX11_seal_21 rfl rfl ?_
  refine kt_getf (T := TX11) (kf := 13) kx_1066 rfl in_X11 cl_X11 (by decide) h0 rfl dX11_seal_22 rfl ?_
  refine kt_callV (n := 1) (M' := mX2_dueBits) (c_ch_dueBits (d := d + 5) hX hW hdp hTg hhei) hO cl_X2 rfl kx_1392 kx_1393 kx_1394 kx_26 kx_1395 (by decide +kernel) rfl (by decide) (Nat.le_of_ble_eq_true rfl) rfl dX11_seal_25 rfl (fun z1 T1 y1 => ?_)
  obtain ⟨rfl, w1, N1, Tg1⟩ := y1
  have a0 := w1.at h0 (by decide)
  have a0j : T1.2.2 0 = some (jdO dc dp dt rs) := a0
  have X1 := hX.up w1 (by decide)
  obtain ⟨hO1, ⟨bf1, h421, hbf1⟩, hB1, -⟩ := id X1
  have l45 : ∀ x ∈ ([45] : List Nat), x < 56 := by decide
  have oy1 := oy.up w1 (fun x hx => by have := l45 x hx; omega)
  obtain ⟨bt, hbt⟩ : ∃ b, dueB B dp = b := ⟨_, rfl⟩
  rw [hbt] at hdb ⊢
  refine kt_istore_n dX11_seal_28 (by decide) rfl ?_
  refine kt_sub [(2, _), (0, _), (1, _)] rfl ?_
  refine kt_aload_n dX11_seal_29 rfl rfl ?_
  refine kt_iload_n dX11_seal_30 rfl rfl ?_
  refine kt_aload_n dX11_seal_31 rfl rfl ?_
  refine kt_getf (T := TX11) (kf := 7) kx_1060 rfl in_X11 cl_X11 (by decide) a0 rfl dX11_seal_32 rfl ?_
  refine kt_getf (T := TX2) (kf := 0) kx_730 rfl in_X2 cl_X2 (by decide) hO1 rfl dX11_seal_35 rfl ?_
  refine kt_aload_n dX11_seal_38 rfl rfl ?_
  refine kt_getf (T := TX11) (kf := 13) kx_1066 rfl in_X11 cl_X11 (by decide) a0 rfl dX11_seal_39 rfl ?_
  refine kt_aaldN (i := dp) (b := (bkN (B dp))) (by decide) h421 rfl (by omega) (by decide) (hbf1 dp (by omega)) dX11_seal_42 rfl ?_
  refine kt_getf (T := TX0) (kf := 3) kx_944 rfl in_X0 cl_X0 (by decide) oy1.1 rfl dX11_seal_43 rfl ?_
  refine kt_iload_n dX11_seal_46 rfl rfl ?_
  refine kt_callV (n := 3) (M' := mX11_draw) (c_jd_draw2 (d := d + 2) a0j (hD.up w1 (by decide)) hdc (w1.st hK (by unfold ks_B; decide)) (hh.up w1 (by decide)) (hw.up w1 (by decide) (by decide)) (hd.up w1 (by decide) (by decide)) (w1.at h53 (by decide)) kg0 (w1.at h54 (by decide)) kr0 (w1.at h55 (by decide)) oy1.2.2.2.2.1 oy1.2.2.2.2.2.2.2.1 (by omega)) a0 cl_X11 rfl kx_854 kx_856 kxp_6 kx_1 kx_857 (by decide +kernel) rfl (by decide) (Nat.le_of_ble_eq_true rfl) rfl dX11_seal_47 rfl (fun z2 T2 y2 => ?_)
  obtain ⟨rfl, w2, hh2, ⟨ow2, W2⟩, ⟨g53, k53, e53⟩, ⟨g54, k54, e54⟩, B2⟩ := y2
  have ehs : bytL g4y 0 32 = bytL (hsB (bkM (B dp))) 0 32 := bytL_c (fun k hk => by rw [Nat.zero_add]; exact hsy k hk)
  have eM : drC (drH 2 (bytL g4y 0 32) dt (nI bt) Ds dc ++ cntL dc) Ds dc = none := by
    unfold drC
    rw [ehs, ← hbt]
    exact if_neg hfit
  rw [eM] at B2
  have B2' := B2
  obtain ⟨l3, g3, -, -, -, a3, -⟩ := B2'
  have b0 := w2.at a0 (by decide)
  have Tg2 : tg_ok T2 N1 := Tg1.up w2 (by decide) (by decide) (fun h => absurd h (by decide)) (fun h => absurd h (by decide))
  refine kt_aload_n dX11_seal_50 rfl rfl ?_
  refine kt_getf (T := TX11) (kf := 1) kx_1054 rfl in_X11 cl_X11 (by decide) b0 rfl dX11_seal_51 rfl ?_
  refine kt_getf (T := TX1) (kf := 2) kx_66 rfl in_X1 cl_X1 (by decide) a3 rfl dX11_seal_54 rfl ?_
  refine kt_if_eqN (tgt := 68) (by decide) dX11_seal_57 (by decide) rfl (fun h => absurd h (by decide)) (fun _ => ?_)
  exact kt_throw (k := 0) (names := ["java/lang/RuntimeException", "java/lang/Exception"]) rfl (by decide +kernel) (by decide +kernel) tw_cl0 tw_in0 tw_at0 (by decide) (Nat.le_of_ble_eq_true rfl) (by rw [w2.1, w1.1]; exact hSB) dX11_seal_60 dX11_seal_63 dX11_seal_64 dX11_seal_67 ⟨rfl, T2, rfl, (w1.mono (by decide)).trans (w2.mono (by decide)), hh2, ⟨N1, Tg2⟩, ⟨ow2, W2⟩, ⟨none, B2⟩, ⟨g53, k53, e53⟩, ⟨g54, k54, e54⟩⟩
set_option maxRecDepth 100000 in
set_option maxHeartbeats 800000 in
theorem t_sealF3 {l : Launch} {G : ks_G} {d : Nat} {S : ks_S} (htr : l.stackTraces = false) (hSB : S.1 < ks_B) {dc dp : Nat} {dt : Int64} {rs : Int32} (h0 : S.2.2 0 = some (jdO dc dp dt rs)) {n best : Nat} {cc : Int32} {tk : Int64} {B : Nat → Bk} (hX : chX S n best cc tk B) {Ds : Nat → dTx} {od ow : Option (List Nat)} {gi0 gr0 : Nat → Nat} {N0 : Nat} (hD : dfS S Ds) (hdc : dc ≤ 12) (hK : ks_stOK S) (hh : hsO S) (hw : bfS S 5 6 8000 ow) (hd : bfS S 3 4 1600 od) (h53 : S.2.2 53 = some (kB 384 gi0)) (kg0 : kO gi0) (h54 : S.2.2 54 = some (kB 32 gr0)) (kr0 : kO gr0) (h55 : S.2.2 55 = some (kB 32 (fun _ => 0))) (hTg : tg_ok S N0) (hW : chW n B) (hdp : dp < n) (hhei : ∀ i, i < n → bkH (B i) < 2 ^ 30) (hdb : dueB B dp < 2 ^ 32) (hb9 : 284 ≤ bkN (B dp)) (hfit : ¬ (slM 3 B dp dt Ds dc).length ≤ 1600) : kt_P l G yX11_seal mX11_seal (d + 9) [.ref 0, .int (nI 3)] S (fun z S' => z = some (.int (nI 0)) ∧ ∃ S2, S' = ks_one S2 ∧ ks_up S S2 [45, 3, 4, 5, 6, 9, 8, 10, 11, 12, 13, 53, 54] ∧ hsO S2 ∧ (∃ N, tg_ok S2 N) ∧ (∃ ow, bfS S2 5 6 8000 ow) ∧ (∃ od, bfS S2 3 4 1600 od) ∧ (∃ g, kO g ∧ S2.2.2 53 = some (kB 384 g)) ∧ (∃ g, kO g ∧ S2.2.2 54 = some (kB 32 g))) := by
  have h0j := h0
  have h0 : S.2.2 0 = some (.inr (14, [.ref 1, .ref 3, .ref 5, .ref 7, .ref 14, .ref 20, .ref 27, .ref 41, .ref 52, .ref 53, .ref 54, .ref 55, .int (nI dc), .int (nI dp), .long dt, .int rs])) := h0
  obtain ⟨hO, ⟨bf, h42, hbf⟩, hB, hn60⟩ := id hX
  obtain ⟨g1y, f2y, g3y, g4y, oy, ley, egy, bly, sty, idy, hsy, coy⟩ := hB dp (by omega)
  refine kt_of htr (by decide) rfl rfl (Nat.le_of_ble_eq_true rfl) ?_
  show ks_Y l G mX11_seal (d + 9) 0 [(0, .ref 0), (1, .int (nI 3))] [] S _
  refine kt_iload_n dX11_seal_0 rfl rfl ?_
  refine kt_if_ltN (tgt := 9) (by decide) dX11_seal_1 (by decide) rfl ?_
  refine kt_iload_n dX11_seal_4 rfl rfl ?_
  refine kt_iconst (x := nI 5) dX11_seal_5 (by decide) rfl ?_
  refine kt_icmp_leN (tgt := 17) (by decide) (by decide) dX11_seal_6 (by decide) rfl (fun _ => ?_) (fun h => absurd h (by decide))
  refine kt_aload_n dX11_seal_17 rfl rfl ?_
  refine kt_getf (T := TX11) (kf := 7) kx_1060 rfl in_X11 cl_X11 (by decide) h0 rfl dX11_seal_18 rfl ?_
  refine kt_aload_n dX11_seal_21 rfl rfl ?_
  refine kt_getf (T := TX11) (kf := 13) kx_1066 rfl in_X11 cl_X11 (by decide) h0 rfl dX11_seal_22 rfl ?_
  refine kt_callV (n := 1) (M' := mX2_dueBits) (c_ch_dueBits (d := d + 5) hX hW hdp hTg hhei) hO cl_X2 rfl kx_1392 kx_1393 kx_1394 kx_26 kx_1395 (by decide +kernel) rfl (by decide) (Nat.le_of_ble_eq_true rfl) rfl dX11_seal_25 rfl (fun z1 T1 y1 => ?_)
  obtain ⟨rfl, w1, N1, Tg1⟩ := y1
  have a0 := w1.at h0 (by decide)
  have a0j : T1.2.2 0 = some (jdO dc dp dt rs) := a0
  have X1 := hX.up w1 (by decide)
  obtain ⟨hO1, ⟨bf1, h421, hbf1⟩, hB1, -⟩ := id X1
  have l45 : ∀ x ∈ ([45] : List Nat), x < 56 := by decide
  have oy1 := oy.up w1 (fun x hx => by have := l45 x hx; omega)
  obtain ⟨bt, hbt⟩ : ∃ b, dueB B dp = b := ⟨_, rfl⟩
  rw [hbt] at hdb ⊢
  refine kt_istore_n dX11_seal_28 (by decide) rfl ?_
  refine kt_sub [(2, _), (0, _), (1, _)] rfl ?_
  refine kt_aload_n dX11_seal_29 rfl rfl ?_
  refine kt_iload_n dX11_seal_30 rfl rfl ?_
  refine kt_aload_n dX11_seal_31 rfl rfl ?_
  refine kt_getf (T := TX11) (kf := 7) kx_1060 rfl in_X11 cl_X11 (by decide) a0 rfl dX11_seal_32 rfl ?_
  refine kt_getf (T := TX2) (kf := 0) kx_730 rfl in_X2 cl_X2 (by decide) hO1 rfl dX11_seal_35 rfl ?_
  refine kt_aload_n dX11_seal_38 rfl rfl ?_
  refine kt_getf (T := TX11) (kf := 13) kx_1066 rfl in_X11 cl_X11 (by decide) a0 rfl dX11_seal_39 rfl ?_
  refine kt_aaldN (i := dp) (b := (bkN (B dp))) (by decide) h421 rfl (by omega) (by decide) (hbf1 dp (by omega)) dX11_seal_42 rfl ?_
  refine kt_getf (T := TX0) (kf := 3) kx_944 rfl in_X0 cl_X0 (by decide) oy1.1 rfl dX11_seal_43 rfl ?_
  refine kt_iload_n dX11_seal_46 rfl rfl ?_
  refine kt_callV (n := 3) (M' := mX11_draw) (c_jd_draw3 (d := d + 2) a0j (hD.up w1 (by decide)) hdc (w1.st hK (by unfold ks_B; decide)) (hh.up w1 (by decide)) (hw.up w1 (by decide) (by decide)) (hd.up w1 (by decide) (by decide)) (w1.at h53 (by decide)) kg0 (w1.at h54 (by decide)) kr0 (w1.at h55 (by decide)) oy1.2.2.2.2.1 oy1.2.2.2.2.2.2.2.1 (by omega)) a0 cl_X11 rfl kx_854 kx_856 kxp_6 kx_1 kx_857 (by decide +kernel) rfl (by decide) (Nat.le_of_ble_eq_true rfl) rfl dX11_seal_47 rfl (fun z2 T2 y2 => ?_)
  obtain ⟨rfl, w2, hh2, ⟨ow2, W2⟩, ⟨g53, k53, e53⟩, ⟨g54, k54, e54⟩, B2⟩ := y2
  have ehs : bytL g4y 0 32 = bytL (hsB (bkM (B dp))) 0 32 := bytL_c (fun k hk => by rw [Nat.zero_add]; exact hsy k hk)
  have eM : drC (drH 3 (bytL g4y 0 32) dt (nI bt) Ds dc ++ cntL dc) Ds dc = none := by
    unfold drC
    rw [ehs, ← hbt]
    exact if_neg hfit
  rw [eM] at B2
  have B2' := B2
  obtain ⟨l3, g3, -, -, -, a3, -⟩ := B2'
  have b0 := w2.at a0 (by decide)
  have Tg2 : tg_ok T2 N1 := Tg1.up w2 (by decide) (by decide) (fun h => absurd h (by decide)) (fun h => absurd h (by decide))
  refine kt_aload_n dX11_seal_50 rfl rfl ?_
  refine kt_getf (T := TX11) (kf := 1) kx_1054 rfl in_X11 cl_X11 (by decide) b0 rfl dX11_seal_51 rfl ?_
  refine kt_getf (T := TX1) (kf := 2) kx_66 rfl in_X1 cl_X1 (by decide) a3 rfl dX11_seal_54 rfl ?_
  refine kt_if_eqN (tgt := 68) (by decide) dX11_seal_57 (by decide) rfl (fun h => absurd h (by decide)) (fun _ => ?_)
  exact kt_throw (k := 0) (names := ["java/lang/RuntimeException", "java/lang/Exception"]) rfl (by decide +kernel) (by decide +kernel) tw_cl0 tw_in0 tw_at0 (by decide) (Nat.le_of_ble_eq_true rfl) (by rw [w2.1, w1.1]; exact hSB) dX11_seal_60 dX11_seal_63 dX11_seal_64 dX11_seal_67 ⟨rfl, T2, rfl, (w1.mono (by decide)).trans (w2.mono (by decide)), hh2, ⟨N1, Tg2⟩, ⟨ow2, W2⟩, ⟨none, B2⟩, ⟨g53, k53, e53⟩, ⟨g54, k54, e54⟩⟩
set_option maxRecDepth 100000 in
set_option maxHeartbeats 800000 in
theorem t_sealF4 {l : Launch} {G : ks_G} {d : Nat} {S : ks_S} (htr : l.stackTraces = false) (hSB : S.1 < ks_B) {dc dp : Nat} {dt : Int64} {rs : Int32} (h0 : S.2.2 0 = some (jdO dc dp dt rs)) {n best : Nat} {cc : Int32} {tk : Int64} {B : Nat → Bk} (hX : chX S n best cc tk B) {Ds : Nat → dTx} {od ow : Option (List Nat)} {gi0 gr0 : Nat → Nat} {N0 : Nat} (hD : dfS S Ds) (hdc : dc ≤ 12) (hK : ks_stOK S) (hh : hsO S) (hw : bfS S 5 6 8000 ow) (hd : bfS S 3 4 1600 od) (h53 : S.2.2 53 = some (kB 384 gi0)) (kg0 : kO gi0) (h54 : S.2.2 54 = some (kB 32 gr0)) (kr0 : kO gr0) (h55 : S.2.2 55 = some (kB 32 (fun _ => 0))) (hTg : tg_ok S N0) (hW : chW n B) (hdp : dp < n) (hhei : ∀ i, i < n → bkH (B i) < 2 ^ 30) (hdb : dueB B dp < 2 ^ 32) (hb9 : 284 ≤ bkN (B dp)) (hfit : ¬ (slM 4 B dp dt Ds dc).length ≤ 1600) : kt_P l G yX11_seal mX11_seal (d + 9) [.ref 0, .int (nI 4)] S (fun z S' => z = some (.int (nI 0)) ∧ ∃ S2, S' = ks_one S2 ∧ ks_up S S2 [45, 3, 4, 5, 6, 9, 8, 10, 11, 12, 13, 53, 54] ∧ hsO S2 ∧ (∃ N, tg_ok S2 N) ∧ (∃ ow, bfS S2 5 6 8000 ow) ∧ (∃ od, bfS S2 3 4 1600 od) ∧ (∃ g, kO g ∧ S2.2.2 53 = some (kB 384 g)) ∧ (∃ g, kO g ∧ S2.2.2 54 = some (kB 32 g))) := by
  have h0j := h0
  have h0 : S.2.2 0 = some (.inr (14, [.ref 1, .ref 3, .ref 5, .ref 7, .ref 14, .ref 20, .ref 27, .ref 41, .ref 52, .ref 53, .ref 54, .ref 55, .int (nI dc), .int (nI dp), .long dt, .int rs])) := h0
  obtain ⟨hO, ⟨bf, h42, hbf⟩, hB, hn60⟩ := id hX
  obtain ⟨g1y, f2y, g3y, g4y, oy, ley, egy, bly, sty, idy, hsy, coy⟩ := hB dp (by omega)
  refine kt_of htr (by decide) rfl rfl (Nat.le_of_ble_eq_true rfl) ?_
  show ks_Y l G mX11_seal (d + 9) 0 [(0, .ref 0), (1, .int (nI 4))] [] S _
  refine kt_iload_n dX11_seal_0 rfl rfl ?_
  refine kt_if_ltN (tgt := 9) (by decide) dX11_seal_1 (by decide) rfl ?_
  refine kt_iload_n dX11_seal_4 rfl rfl ?_
  refine kt_iconst (x := nI 5) dX11_seal_5 (by decide) rfl ?_
  refine kt_icmp_leN (tgt := 17) (by decide) (by decide) dX11_seal_6 (by decide) rfl (fun _ => ?_) (fun h => absurd h (by decide))
  refine kt_aload_n dX11_seal_17 rfl rfl ?_
  refine kt_getf (T := TX11) (kf := 7) kx_1060 rfl in_X11 cl_X11 (by decide) h0 rfl dX11_seal_18 rfl ?_
  refine kt_aload_n dX11_seal_21 rfl rfl ?_
  refine kt_getf (T := TX11) (kf := 13) kx_1066 rfl in_X11 cl_X11 (by decide) h0 rfl dX11_seal_22 rfl ?_
  refine kt_callV (n := 1) (M' := mX2_dueBits) (c_ch_dueBits (d := d + 5) hX hW hdp hTg hhei) hO cl_X2 rfl kx_1392 kx_1393 kx_1394 kx_26 kx_1395 (by decide +kernel) rfl (by decide) (Nat.le_of_ble_eq_true rfl) rfl dX11_seal_25 rfl (fun z1 T1 y1 => ?_)
  obtain ⟨rfl, w1, N1, Tg1⟩ := y1
  have a0 := w1.at h0 (by decide)
  have a0j : T1.2.2 0 = some (jdO dc dp dt rs) := a0
  have X1 := hX.up w1 (by decide)
  obtain ⟨hO1, ⟨bf1, h421, hbf1⟩, hB1, -⟩ := id X1
  have l45 : ∀ x ∈ ([45] : List Nat), x < 56 := by decide
  have oy1 := oy.up w1 (fun x hx => by have := l45 x hx; omega)
  obtain ⟨bt, hbt⟩ : ∃ b, dueB B dp = b := ⟨_, rfl⟩
  rw [hbt] at hdb ⊢
  refine kt_istore_n dX11_seal_28 (by decide) rfl ?_
  refine kt_sub [(2, _), (0, _), (1, _)] rfl ?_
  refine kt_aload_n dX11_seal_29 rfl rfl ?_
  refine kt_iload_n dX11_seal_30 rfl rfl ?_
  refine kt_aload_n dX11_seal_31 rfl rfl ?_
  refine kt_getf (T := TX11) (kf := 7) kx_1060 rfl in_X11 cl_X11 (by decide) a0 rfl dX11_seal_32 rfl ?_
  refine kt_getf (T := TX2) (kf := 0) kx_730 rfl in_X2 cl_X2 (by decide) hO1 rfl dX11_seal_35 rfl ?_
  refine kt_aload_n dX11_seal_38 rfl rfl ?_
  refine kt_getf (T := TX11) (kf := 13) kx_1066 rfl in_X11 cl_X11 (by decide) a0 rfl dX11_seal_39 rfl ?_
  refine kt_aaldN (i := dp) (b := (bkN (B dp))) (by decide) h421 rfl (by omega) (by decide) (hbf1 dp (by omega)) dX11_seal_42 rfl ?_
  refine kt_getf (T := TX0) (kf := 3) kx_944 rfl in_X0 cl_X0 (by decide) oy1.1 rfl dX11_seal_43 rfl ?_
  refine kt_iload_n dX11_seal_46 rfl rfl ?_
  refine kt_callV (n := 3) (M' := mX11_draw) (c_jd_draw4 (d := d + 2) a0j (hD.up w1 (by decide)) hdc (w1.st hK (by unfold ks_B; decide)) (hh.up w1 (by decide)) (hw.up w1 (by decide) (by decide)) (hd.up w1 (by decide) (by decide)) (w1.at h53 (by decide)) kg0 (w1.at h54 (by decide)) kr0 (w1.at h55 (by decide)) oy1.2.2.2.2.1 oy1.2.2.2.2.2.2.2.1 (by omega)) a0 cl_X11 rfl kx_854 kx_856 kxp_6 kx_1 kx_857 (by decide +kernel) rfl (by decide) (Nat.le_of_ble_eq_true rfl) rfl dX11_seal_47 rfl (fun z2 T2 y2 => ?_)
  obtain ⟨rfl, w2, hh2, ⟨ow2, W2⟩, ⟨g53, k53, e53⟩, ⟨g54, k54, e54⟩, B2⟩ := y2
  have ehs : bytL g4y 0 32 = bytL (hsB (bkM (B dp))) 0 32 := bytL_c (fun k hk => by rw [Nat.zero_add]; exact hsy k hk)
  have eM : drC (drH 4 (bytL g4y 0 32) dt (nI bt) Ds dc ++ cntL dc) Ds dc = none := by
    unfold drC
    rw [ehs, ← hbt]
    exact if_neg hfit
  rw [eM] at B2
  have B2' := B2
  obtain ⟨l3, g3, -, -, -, a3, -⟩ := B2'
  have b0 := w2.at a0 (by decide)
  have Tg2 : tg_ok T2 N1 := Tg1.up w2 (by decide) (by decide) (fun h => absurd h (by decide)) (fun h => absurd h (by decide))
  refine kt_aload_n dX11_seal_50 rfl rfl ?_
  refine kt_getf (T := TX11) (kf := 1) kx_1054 rfl in_X11 cl_X11 (by decide) b0 rfl dX11_seal_51 rfl ?_
  refine kt_getf (T := TX1) (kf := 2) kx_66 rfl in_X1 cl_X1 (by decide) a3 rfl dX11_seal_54 rfl ?_
  refine kt_if_eqN (tgt := 68) (by decide) dX11_seal_57 (by decide) rfl (fun h => absurd h (by decide)) (fun _ => ?_)
  exact kt_throw (k := 0) (names := ["java/lang/RuntimeException", "java/lang/Exception"]) rfl (by decide +kernel) (by decide +kernel) tw_cl0 tw_in0 tw_at0 (by decide) (Nat.le_of_ble_eq_true rfl) (by rw [w2.1, w1.1]; exact hSB) dX11_seal_60 dX11_seal_63 dX11_seal_64 dX11_seal_67 ⟨rfl, T2, rfl, (w1.mono (by decide)).trans (w2.mono (by decide)), hh2, ⟨N1, Tg2⟩, ⟨ow2, W2⟩, ⟨none, B2⟩, ⟨g53, k53, e53⟩, ⟨g54, k54, e54⟩⟩
set_option maxRecDepth 100000 in
set_option maxHeartbeats 800000 in
theorem t_sealF5 {l : Launch} {G : ks_G} {d : Nat} {S : ks_S} (htr : l.stackTraces = false) (hSB : S.1 < ks_B) {dc dp : Nat} {dt : Int64} {rs : Int32} (h0 : S.2.2 0 = some (jdO dc dp dt rs)) {n best : Nat} {cc : Int32} {tk : Int64} {B : Nat → Bk} (hX : chX S n best cc tk B) {Ds : Nat → dTx} {od ow : Option (List Nat)} {gi0 gr0 : Nat → Nat} {N0 : Nat} (hD : dfS S Ds) (hdc : dc ≤ 12) (hK : ks_stOK S) (hh : hsO S) (hw : bfS S 5 6 8000 ow) (hd : bfS S 3 4 1600 od) (h53 : S.2.2 53 = some (kB 384 gi0)) (kg0 : kO gi0) (h54 : S.2.2 54 = some (kB 32 gr0)) (kr0 : kO gr0) (h55 : S.2.2 55 = some (kB 32 (fun _ => 0))) (hTg : tg_ok S N0) (hW : chW n B) (hdp : dp < n) (hhei : ∀ i, i < n → bkH (B i) < 2 ^ 30) (hdb : dueB B dp < 2 ^ 32) (hb9 : 284 ≤ bkN (B dp)) (hfit : ¬ (slM 5 B dp dt Ds dc).length ≤ 1600) : kt_P l G yX11_seal mX11_seal (d + 9) [.ref 0, .int (nI 5)] S (fun z S' => z = some (.int (nI 0)) ∧ ∃ S2, S' = ks_one S2 ∧ ks_up S S2 [45, 3, 4, 5, 6, 9, 8, 10, 11, 12, 13, 53, 54] ∧ hsO S2 ∧ (∃ N, tg_ok S2 N) ∧ (∃ ow, bfS S2 5 6 8000 ow) ∧ (∃ od, bfS S2 3 4 1600 od) ∧ (∃ g, kO g ∧ S2.2.2 53 = some (kB 384 g)) ∧ (∃ g, kO g ∧ S2.2.2 54 = some (kB 32 g))) := by
  have h0j := h0
  have h0 : S.2.2 0 = some (.inr (14, [.ref 1, .ref 3, .ref 5, .ref 7, .ref 14, .ref 20, .ref 27, .ref 41, .ref 52, .ref 53, .ref 54, .ref 55, .int (nI dc), .int (nI dp), .long dt, .int rs])) := h0
  obtain ⟨hO, ⟨bf, h42, hbf⟩, hB, hn60⟩ := id hX
  obtain ⟨g1y, f2y, g3y, g4y, oy, ley, egy, bly, sty, idy, hsy, coy⟩ := hB dp (by omega)
  refine kt_of htr (by decide) rfl rfl (Nat.le_of_ble_eq_true rfl) ?_
  show ks_Y l G mX11_seal (d + 9) 0 [(0, .ref 0), (1, .int (nI 5))] [] S _
  refine kt_iload_n dX11_seal_0 rfl rfl ?_
  refine kt_if_ltN (tgt := 9) (by decide) dX11_seal_1 (by decide) rfl ?_
  refine kt_iload_n dX11_seal_4 rfl rfl ?_
  refine kt_iconst (x := nI 5) dX11_seal_5 (by decide) rfl ?_
  refine kt_icmp_leN (tgt := 17) (by decide) (by decide) dX11_seal_6 (by decide) rfl (fun _ => ?_) (fun h => absurd h (by decide))
  refine kt_aload_n dX11_seal_17 rfl rfl ?_
  refine kt_getf (T := TX11) (kf := 7) kx_1060 rfl in_X11 cl_X11 (by decide) h0 rfl dX11_seal_18 rfl ?_
  refine kt_aload_n dX11_seal_21 rfl rfl ?_
  refine kt_getf (T := TX11) (kf := 13) kx_1066 rfl in_X11 cl_X11 (by decide) h0 rfl dX11_seal_22 rfl ?_
  refine kt_callV (n := 1) (M' := mX2_dueBits) (c_ch_dueBits (d := d + 5) hX hW hdp hTg hhei) hO cl_X2 rfl kx_1392 kx_1393 kx_1394 kx_26 kx_1395 (by decide +kernel) rfl (by decide) (Nat.le_of_ble_eq_true rfl) rfl dX11_seal_25 rfl (fun z1 T1 y1 => ?_)
  obtain ⟨rfl, w1, N1, Tg1⟩ := y1
  have a0 := w1.at h0 (by decide)
  have a0j : T1.2.2 0 = some (jdO dc dp dt rs) := a0
  have X1 := hX.up w1 (by decide)
  obtain ⟨hO1, ⟨bf1, h421, hbf1⟩, hB1, -⟩ := id X1
  have l45 : ∀ x ∈ ([45] : List Nat), x < 56 := by decide
  have oy1 := oy.up w1 (fun x hx => by have := l45 x hx; omega)
  obtain ⟨bt, hbt⟩ : ∃ b, dueB B dp = b := ⟨_, rfl⟩
  rw [hbt] at hdb ⊢
  refine kt_istore_n dX11_seal_28 (by decide) rfl ?_
  refine kt_sub [(2, _), (0, _), (1, _)] rfl ?_
  refine kt_aload_n dX11_seal_29 rfl rfl ?_
  refine kt_iload_n dX11_seal_30 rfl rfl ?_
  refine kt_aload_n dX11_seal_31 rfl rfl ?_
  refine kt_getf (T := TX11) (kf := 7) kx_1060 rfl in_X11 cl_X11 (by decide) a0 rfl dX11_seal_32 rfl ?_
  refine kt_getf (T := TX2) (kf := 0) kx_730 rfl in_X2 cl_X2 (by decide) hO1 rfl dX11_seal_35 rfl ?_
  refine kt_aload_n dX11_seal_38 rfl rfl ?_
  refine kt_getf (T := TX11) (kf := 13) kx_1066 rfl in_X11 cl_X11 (by decide) a0 rfl dX11_seal_39 rfl ?_
  refine kt_aaldN (i := dp) (b := (bkN (B dp))) (by decide) h421 rfl (by omega) (by decide) (hbf1 dp (by omega)) dX11_seal_42 rfl ?_
  refine kt_getf (T := TX0) (kf := 3) kx_944 rfl in_X0 cl_X0 (by decide) oy1.1 rfl dX11_seal_43 rfl ?_
  refine kt_iload_n dX11_seal_46 rfl rfl ?_
  refine kt_callV (n := 3) (M' := mX11_draw) (c_jd_draw5 (d := d + 2) a0j (hD.up w1 (by decide)) hdc (w1.st hK (by unfold ks_B; decide)) (hh.up w1 (by decide)) (hw.up w1 (by decide) (by decide)) (hd.up w1 (by decide) (by decide)) (w1.at h53 (by decide)) kg0 (w1.at h54 (by decide)) kr0 (w1.at h55 (by decide)) oy1.2.2.2.2.1 oy1.2.2.2.2.2.2.2.1 (by omega)) a0 cl_X11 rfl kx_854 kx_856 kxp_6 kx_1 kx_857 (by decide +kernel) rfl (by decide) (Nat.le_of_ble_eq_true rfl) rfl dX11_seal_47 rfl (fun z2 T2 y2 => ?_)
  obtain ⟨rfl, w2, hh2, ⟨ow2, W2⟩, ⟨g53, k53, e53⟩, ⟨g54, k54, e54⟩, B2⟩ := y2
  have ehs : bytL g4y 0 32 = bytL (hsB (bkM (B dp))) 0 32 := bytL_c (fun k hk => by rw [Nat.zero_add]; exact hsy k hk)
  have eM : drC (drH 5 (bytL g4y 0 32) dt (nI bt) Ds dc ++ cntL dc) Ds dc = none := by
    unfold drC
    rw [ehs, ← hbt]
    exact if_neg hfit
  rw [eM] at B2
  have B2' := B2
  obtain ⟨l3, g3, -, -, -, a3, -⟩ := B2'
  have b0 := w2.at a0 (by decide)
  have Tg2 : tg_ok T2 N1 := Tg1.up w2 (by decide) (by decide) (fun h => absurd h (by decide)) (fun h => absurd h (by decide))
  refine kt_aload_n dX11_seal_50 rfl rfl ?_
  refine kt_getf (T := TX11) (kf := 1) kx_1054 rfl in_X11 cl_X11 (by decide) b0 rfl dX11_seal_51 rfl ?_
  refine kt_getf (T := TX1) (kf := 2) kx_66 rfl in_X1 cl_X1 (by decide) a3 rfl dX11_seal_54 rfl ?_
  refine kt_if_eqN (tgt := 68) (by decide) dX11_seal_57 (by decide) rfl (fun h => absurd h (by decide)) (fun _ => ?_)
  exact kt_throw (k := 0) (names := ["java/lang/RuntimeException", "java/lang/Exception"]) rfl (by decide +kernel) (by decide +kernel) tw_cl0 tw_in0 tw_at0 (by decide) (Nat.le_of_ble_eq_true rfl) (by rw [w2.1, w1.1]; exact hSB) dX11_seal_60 dX11_seal_63 dX11_seal_64 dX11_seal_67 ⟨rfl, T2, rfl, (w1.mono (by decide)).trans (w2.mono (by decide)), hh2, ⟨N1, Tg2⟩, ⟨ow2, W2⟩, ⟨none, B2⟩, ⟨g53, k53, e53⟩, ⟨g54, k54, e54⟩⟩
set_option maxRecDepth 100000 in
set_option maxHeartbeats 800000 in
theorem t_judgeR {l : Launch} {G : ks_G} {d : Nat} {S : ks_S} (htr : l.stackTraces = false) (hSB : S.1 < ks_B) {dc dp : Nat} {dt : Int64} {rs : Int32} (h0 : S.2.2 0 = some (jdO dc dp dt rs)) {n best : Nat} {cc : Int32} {tk : Int64} {B : Nat → Bk} (hX : chX S n best cc tk B) {sl : Option Nat} {T : List Nat} {N0 : Nat} {f48 gr : Nat → Nat} (hF : chF S n B sl) (hT : chT S n B) (hroom : S.1 + 10 < ks_B) (hW : chW n B) (hhei : ∀ i, i < n → bkH (B i) < 700) (hbf : bfS S 1 2 1600 (some T)) (hh : hsO S) (hR : tvR S) (hK : ks_stOK S) (hTg : tg_ok S N0) (h48 : S.2.2 48 = some (kL 11 f48)) (h49 : S.2.2 49 = some (kB 32 gr)) (hgr : kO gr) {r : Nat} (hin : inF B n T = nI r) (hr : 0 < r ∧ r < 20) : kt_P l G yX11_judge mX11_judge (d + 9) [.ref 0] S (fun z S' => z = some (.int (nI 3)) ∧ ∃ S2 S3, inP S n best cc tk B sl T (some (.int (nI r))) S2 ∧ ks_up S2 S3 [2, 1] ∧ bfS S3 1 2 1600 (some []) ∧ S' = ks_one (ks_set S3 0 (jdO dc dp dt (nI r)))) := by
  have h0 : S.2.2 0 = some (.inr (14, [.ref 1, .ref 3, .ref 5, .ref 7, .ref 14, .ref 20, .ref 27, .ref 41, .ref 52, .ref 53, .ref 54, .ref 55, .int (nI dc), .int (nI dp), .long dt, .int rs])) := h0
  obtain ⟨len, g, -, -, -, e1, -⟩ := id hbf
  have hO := hX.1
  have s64 := hT.1
  refine kt_of htr (by decide) rfl rfl (Nat.le_of_ble_eq_true rfl) ?_
  show ks_Y l G mX11_judge (d + 9) 0 [(0, .ref 0)] [] S _
  refine kt_aload_n dX11_judge_0 rfl rfl ?_
  refine kt_getf (T := TX11) (kf := 7) kx_1060 rfl in_X11 cl_X11 (by decide) h0 rfl dX11_judge_1 rfl ?_
  refine kt_aload_n dX11_judge_4 rfl rfl ?_
  refine kt_getf (T := TX11) (kf := 0) kx_1053 rfl in_X11 cl_X11 (by decide) h0 rfl dX11_judge_5 rfl ?_
  refine kt_callV (n := 1) (M' := mX2_inspect) (c_ch_inspect (d := d) hX hF hT hroom hW hhei hbf (by decide) hh hR hK hTg h48 h49 hgr) hO cl_X2 rfl kx_1427 kx_1428 kx_1429 kx_26 kx_1430 (by decide +kernel) rfl (by decide) (Nat.le_of_ble_eq_true rfl) rfl dX11_judge_8 rfl (fun z1 T1 y1 => ?_)
  have hI := y1
  obtain ⟨rfl, b, ex, hsz, X1, F1, -⟩ := y1
  obtain ⟨hb5, hsA, len2, cnt2, par2, hei2, g12, f22, g32, g42, bx⟩ := F1.2 b rfl
  have b56 := bx.2.2.2.2.2.2.2.2.2
  have nLI : ∀ x, x < 7 → x ∉ LI b := fun x hx q => by
    rcases LI_mem q with h | h | h
    · have := (by decide : ∀ x ∈ LIn, 7 < x) x h
      omega
    · omega
    · omega
  have a0 := ex.at h0 (nLI _ (by decide)) (by omega)
  have B1 := bfS_ex hbf ex (nLI _ (by decide)) (nLI _ (by decide)) (by omega) (by omega)
  obtain ⟨len3, g3, -, -, -, a1, -⟩ := id B1
  rw [hin]
  rw [hin] at hI
  refine kt_istore_n dX11_judge_11 (by decide) rfl ?_
  refine kt_sub [(1, _), (0, _)] rfl ?_
  refine kt_aload_n dX11_judge_12 rfl rfl ?_
  refine kt_getf (T := TX11) (kf := 0) kx_1053 rfl in_X11 cl_X11 (by decide) a0 rfl dX11_judge_13 rfl ?_
  refine kt_callV (n := 0) (M' := mX1_clear) (bf_clear (d := d + 8) B1) a1 cl_X1 rfl kx_842 kx_843 kx_844 kx_2 kx_845 (by decide +kernel) rfl (by decide) (Nat.le_of_ble_eq_true rfl) rfl dX11_judge_16 rfl (fun z2 T2 y2 => ?_)
  obtain ⟨rfl, w2, B2⟩ := y2
  have X2 := X1.up w2 (by decide)
  have O2 := X2.1
  have a02 := w2.at a0 (by decide)
  have rB : T2.1 < ks_B := by rw [w2.1]; have := hsz.1; omega
  refine kt_iload_n dX11_judge_19 rfl rfl ?_
  refine kt_iconst (x := (-1)) dX11_judge_20 (by decide) rfl ?_
  have r1 : ¬ nI r = -1 := fun h => absurd (h ▸ nI_nn (by omega : r < 2 ^ 31)) (by decide)
  have r2 : ¬ nI r = -2 := fun h => absurd (h ▸ nI_nn (by omega : r < 2 ^ 31)) (by decide)
  refine kt_icmp_ne (tgt := 26) dX11_judge_21 (by decide) rfl (fun _ => ?_) (fun h => absurd h r1)
  refine kt_iload_n dX11_judge_26 rfl rfl ?_
  refine kt_bipush (x := (-2)) dX11_judge_27 (by decide) rfl ?_
  refine kt_icmp_ne (tgt := 34) dX11_judge_29 (by decide) rfl (fun _ => ?_) (fun h => absurd h r2)
  refine kt_iload_n dX11_judge_34 rfl rfl ?_
  refine kt_if_eqN (tgt := 51) (by omega) dX11_judge_35 (by decide) rfl (fun h3 => absurd h3 (by omega)) (fun h3 => ?_)
  refine kt_aload_n dX11_judge_38 rfl rfl ?_
  refine kt_iload_n dX11_judge_39 rfl rfl ?_
  refine kt_putf (T := TX11) (kf := 15) kx_1068 rfl in_X11 tyX11_ok nmX11 cl_X11 (by decide) a02 (Nat.le_of_ble_eq_true rfl) rfl rfl rfl rfl dX11_judge_40 rfl ?_
  exact kt_throw (k := 3) (names := ["java/lang/RuntimeException", "java/lang/Exception"]) rfl (by decide +kernel) (by decide +kernel) tw_cl3 tw_in3 tw_at3 (by decide) (Nat.le_of_ble_eq_true rfl) rB dX11_judge_43 dX11_judge_46 dX11_judge_47 dX11_judge_50 ⟨rfl, T1, T2, hI, w2, B2, rfl⟩
set_option maxRecDepth 100000 in
set_option maxHeartbeats 800000 in
theorem t_judgeK {l : Launch} {G : ks_G} {d : Nat} {S : ks_S} (htr : l.stackTraces = false) (hSB : S.1 < ks_B) {dc dp : Nat} {dt : Int64} {rs : Int32} (h0 : S.2.2 0 = some (jdO dc dp dt rs)) {n best : Nat} {cc : Int32} {tk : Int64} {B : Nat → Bk} (hX : chX S n best cc tk B) {sl : Option Nat} {T : List Nat} {N0 : Nat} {f48 gr : Nat → Nat} (hF : chF S n B sl) (hT : chT S n B) (hroom : S.1 + 10 < ks_B) (hW : chW n B) (hhei : ∀ i, i < n → bkH (B i) < 700) (hbf : bfS S 1 2 1600 (some T)) (hh : hsO S) (hR : tvR S) (hK : ks_stOK S) (hTg : tg_ok S N0) (h48 : S.2.2 48 = some (kL 11 f48)) (h49 : S.2.2 49 = some (kB 32 gr)) (hgr : kO gr) (hin : inF B n T = nI 0) (hn : n = 60) : kt_P l G yX11_judge mX11_judge (d + 9) [.ref 0] S (fun z S' => z = some (.int (nI 0)) ∧ ∃ S2 S3, inP S n best cc tk B sl T (some (.int (nI 0))) S2 ∧ ks_up S2 S3 [2, 1] ∧ bfS S3 1 2 1600 (some []) ∧ S' = ks_one S3) := by
  have h0 : S.2.2 0 = some (.inr (14, [.ref 1, .ref 3, .ref 5, .ref 7, .ref 14, .ref 20, .ref 27, .ref 41, .ref 52, .ref 53, .ref 54, .ref 55, .int (nI dc), .int (nI dp), .long dt, .int rs])) := h0
  obtain ⟨len, g, -, -, -, e1, -⟩ := id hbf
  have hO := hX.1
  have s64 := hT.1
  refine kt_of htr (by decide) rfl rfl (Nat.le_of_ble_eq_true rfl) ?_
  show ks_Y l G mX11_judge (d + 9) 0 [(0, .ref 0)] [] S _
  refine kt_aload_n dX11_judge_0 rfl rfl ?_
  refine kt_getf (T := TX11) (kf := 7) kx_1060 rfl in_X11 cl_X11 (by decide) h0 rfl dX11_judge_1 rfl ?_
  refine kt_aload_n dX11_judge_4 rfl rfl ?_
  refine kt_getf (T := TX11) (kf := 0) kx_1053 rfl in_X11 cl_X11 (by decide) h0 rfl dX11_judge_5 rfl ?_
  refine kt_callV (n := 1) (M' := mX2_inspect) (c_ch_inspect (d := d) hX hF hT hroom hW hhei hbf (by decide) hh hR hK hTg h48 h49 hgr) hO cl_X2 rfl kx_1427 kx_1428 kx_1429 kx_26 kx_1430 (by decide +kernel) rfl (by decide) (Nat.le_of_ble_eq_true rfl) rfl dX11_judge_8 rfl (fun z1 T1 y1 => ?_)
  have hI := y1
  obtain ⟨rfl, b, ex, hsz, X1, F1, -⟩ := y1
  obtain ⟨hb5, hsA, len2, cnt2, par2, hei2, g12, f22, g32, g42, bx⟩ := F1.2 b rfl
  have b56 := bx.2.2.2.2.2.2.2.2.2
  have nLI : ∀ x, x < 7 → x ∉ LI b := fun x hx q => by
    rcases LI_mem q with h | h | h
    · have := (by decide : ∀ x ∈ LIn, 7 < x) x h
      omega
    · omega
    · omega
  have a0 := ex.at h0 (nLI _ (by decide)) (by omega)
  have B1 := bfS_ex hbf ex (nLI _ (by decide)) (nLI _ (by decide)) (by omega) (by omega)
  obtain ⟨len3, g3, -, -, -, a1, -⟩ := id B1
  rw [hin]
  rw [hin] at hI
  refine kt_istore_n dX11_judge_11 (by decide) rfl ?_
  refine kt_sub [(1, _), (0, _)] rfl ?_
  refine kt_aload_n dX11_judge_12 rfl rfl ?_
  refine kt_getf (T := TX11) (kf := 0) kx_1053 rfl in_X11 cl_X11 (by decide) a0 rfl dX11_judge_13 rfl ?_
  refine kt_callV (n := 0) (M' := mX1_clear) (bf_clear (d := d + 8) B1) a1 cl_X1 rfl kx_842 kx_843 kx_844 kx_2 kx_845 (by decide +kernel) rfl (by decide) (Nat.le_of_ble_eq_true rfl) rfl dX11_judge_16 rfl (fun z2 T2 y2 => ?_)
  obtain ⟨rfl, w2, B2⟩ := y2
  have X2 := X1.up w2 (by decide)
  have O2 := X2.1
  have a02 := w2.at a0 (by decide)
  have rB : T2.1 < ks_B := by rw [w2.1]; have := hsz.1; omega
  refine kt_iload_n dX11_judge_19 rfl rfl ?_
  refine kt_iconst (x := (-1)) dX11_judge_20 (by decide) rfl ?_
  refine kt_icmp_ne (tgt := 26) dX11_judge_21 (by decide) rfl (fun _ => ?_) (fun h => absurd h (by decide))
  refine kt_iload_n dX11_judge_26 rfl rfl ?_
  refine kt_bipush (x := (-2)) dX11_judge_27 (by decide) rfl ?_
  refine kt_icmp_ne (tgt := 34) dX11_judge_29 (by decide) rfl (fun _ => ?_) (fun h => absurd h (by decide))
  refine kt_iload_n dX11_judge_34 rfl rfl ?_
  refine kt_if_eqN (tgt := 51) (by decide) dX11_judge_35 (by decide) rfl (fun _ => ?_) (fun h => absurd h (by decide))
  refine kt_aload_n dX11_judge_51 rfl rfl ?_
  refine kt_getf (T := TX11) (kf := 7) kx_1060 rfl in_X11 cl_X11 (by decide) a02 rfl dX11_judge_52 rfl ?_
  refine kt_getf (T := TX2) (kf := 3) kx_736 rfl in_X2 cl_X2 (by decide) O2 rfl dX11_judge_55 rfl ?_
  refine kt_bipush (x := nI 60) dX11_judge_58 (by decide) rfl ?_
  refine kt_icmp_neN (tgt := 71) (by omega) (by decide) dX11_judge_60 (by decide) rfl (fun h4 => absurd h4 (by omega)) (fun h4 => ?_)
  exact kt_throw (k := 0) (names := ["java/lang/RuntimeException", "java/lang/Exception"]) rfl (by decide +kernel) (by decide +kernel) tw_cl0 tw_in0 tw_at0 (by decide) (Nat.le_of_ble_eq_true rfl) rB dX11_judge_63 dX11_judge_66 dX11_judge_67 dX11_judge_70 ⟨rfl, T1, T2, hI, w2, B2, rfl⟩
