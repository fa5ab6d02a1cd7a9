/-! THE JUDGE: sealing -/
/-- the block that is drawn, before its nonce is sought -/
def slM (md : Nat) (B : Nat → Bk) (dp : Nat) (dt : Int64) (Ds : Nat → dTx) (dc : Nat) : List Nat := drH md (bytL (hsB (bkM (B dp))) 0 32) dt (nI (dueB B dp)) Ds dc ++ cntL dc ++ catT Ds dc
def slF (md : Nat) (B : Nat → Bk) (dp : Nat) (dt : Int64) (Ds : Nat → dTx) (dc : Nat) : List Nat := sNc (slM md B dp dt Ds dc) (fnN (slM md B dp dt Ds dc) (decide (md ≠ 3)) (tg_num (dueB B dp)) 4096 0)
theorem drH_len (md : Nat) (hs : List Nat) (dt : Int64) (bt : Int32) (Ds : Nat → dTx) (dc : Nat) (h : hs.length = 32) : (drH md hs dt bt Ds dc).length = 80 := by
  unfold drH
  simp only [List.length_append, numL_len, bytL_len]
  split <;> simp [h, bytL_len]
set_option maxRecDepth 100000 in
set_option maxHeartbeats 800000 in
theorem c_jd_seal0 {l : Launch} {G : ks_G} {d : Nat} {S : ks_S} {dc dp : Nat} {dt : Int64} {rs : Int32} (h0 : S.2.2 0 = some (jdO dc dp dt rs)) {n best : Nat} {cc : Int32} {tk : Int64} {B : Nat → Bk} (hX : chX S n best cc tk B) {T : List Nat} {Ds : Nat → dTx} {od ow : Option (List Nat)} {gi0 gr0 : Nat → Nat} {N0 : Nat} (hT : bfS S 1 2 1600 (some T)) (hD : dfS S Ds) (hdc : dc ≤ 12) (hK : ks_stOK S) (hh : hsO S) (hw : bfS S 5 6 8000 ow) (hd : bfS S 3 4 1600 od) (h53 : S.2.2 53 = some (kB 384 gi0)) (kg0 : kO gi0) (h54 : S.2.2 54 = some (kB 32 gr0)) (kr0 : kO gr0) (h55 : S.2.2 55 = some (kB 32 (fun _ => 0))) (hTg : tg_ok S N0) (hW : chW n B) (hdp : dp < n) (hhei : ∀ i, i < n → bkH (B i) < 2 ^ 30) (hdb : dueB B dp < 2 ^ 32) (hb9 : 284 ≤ bkN (B dp)) (hfit : (slM 0 B dp dt Ds dc).length ≤ 1600) : ks_P l G yX11_seal mX11_seal (d + 7) [.ref 0, .int (nI 0)] S (fun z S' => z = some (.int (nI (slM 0 B dp dt Ds dc).length)) ∧ ks_up S S' [45, 3, 4, 5, 6, 9, 8, 10, 11, 12, 13, 53, 54, 2, 1] ∧ hsO S' ∧ (∃ N, tg_ok S' N) ∧ (∃ ow, bfS S' 5 6 8000 ow) ∧ (∃ od, bfS S' 3 4 1600 od) ∧ (∃ g, kO g ∧ S'.2.2 53 = some (kB 384 g)) ∧ (∃ g, kO g ∧ S'.2.2 54 = some (kB 32 g)) ∧ bfS S' 1 2 1600 (some (slF 0 B dp dt Ds dc))) := by
  have h0j := h0
  have h0 : S.2.2 0 = some (.inr (14, [.ref 1, .ref 3, .ref 5, .ref 7, .ref 14, .ref 20, .ref 27, .ref 41, .ref 52, .ref 53, .ref 54, .ref 55, .int (nI dc), .int (nI dp), .long dt, .int rs])) := h0
  obtain ⟨hO, ⟨bf, h42, hbf⟩, hB, hn60⟩ := id hX
  obtain ⟨g1y, f2y, g3y, g4y, oy, ley, egy, bly, sty, idy, hsy, coy⟩ := hB dp (by omega)
  refine ks_of (by decide) rfl rfl (Nat.le_of_ble_eq_true rfl) ?_
  show ks_X l G mX11_seal (d + 7) 0 [(0, .ref 0), (1, .int (nI 0))] [] S _
  refine ks_iload_n dX11_seal_0 rfl rfl ?_
  refine ks_if_ltN (tgt := 9) (by decide) dX11_seal_1 (by decide) rfl ?_
  refine ks_iload_n dX11_seal_4 rfl rfl ?_
  refine ks_iconst (x := nI 5) dX11_seal_5 (by decide) rfl ?_
  refine ks_icmp_leN (tgt := 17) (by decide) (by decide) dX11_seal_6 (by decide) rfl (fun _ => ?_) (fun h => absurd h (by decide))
  refine ks_aload_n dX11_seal_17 rfl rfl ?_
  refine ks_getf (T := TX11) (kf := 7) kx_1060 rfl in_X11 cl_X11 (by decide) h0 rfl dX11_seal_18 rfl ?_
  refine ks_aload_n dX11_seal_21 rfl rfl ?_
  refine ks_getf (T := TX11) (kf := 13) kx_1066 rfl in_X11 cl_X11 (by decide) h0 rfl dX11_seal_22 rfl ?_
  refine ks_callV (n := 1) (M' := mX2_dueBits) (c_ch_dueBits (d := d + 3) hX hW hdp hTg hhei) hO cl_X2 rfl kx_1392 kx_1393 kx_1394 kx_26 kx_1395 (by decide +kernel) rfl (by decide) (Nat.le_of_ble_eq_true rfl) rfl dX11_seal_25 rfl (fun z1 T1 y1 => ?_)
  obtain ⟨rfl, w1, N1, Tg1⟩ := y1
  have a0 := w1.at h0 (by decide)
  have a0j : T1.2.2 0 = some (jdO dc dp dt rs) := a0
  have X1 := hX.up w1 (by decide)
  obtain ⟨hO1, ⟨bf1, h421, hbf1⟩, hB1, -⟩ := id X1
  have l45 : ∀ x ∈ ([45] : List Nat), x < 56 := by decide
  have oy1 := oy.up w1 (fun x hx => by have := l45 x hx; omega)
  obtain ⟨bt, hbt⟩ : ∃ b, dueB B dp = b := ⟨_, rfl⟩
  rw [hbt] at hdb ⊢
  refine ks_istore_n dX11_seal_28 (by decide) rfl ?_
  refine ks_sub [(2, _), (0, _), (1, _)] rfl ?_
  refine ks_aload_n dX11_seal_29 rfl rfl ?_
  refine ks_iload_n dX11_seal_30 rfl rfl ?_
  refine ks_aload_n dX11_seal_31 rfl rfl ?_
  refine ks_getf (T := TX11) (kf := 7) kx_1060 rfl in_X11 cl_X11 (by decide) a0 rfl dX11_seal_32 rfl ?_
  refine ks_getf (T := TX2) (kf := 0) kx_730 rfl in_X2 cl_X2 (by decide) hO1 rfl dX11_seal_35 rfl ?_
  refine ks_aload_n dX11_seal_38 rfl rfl ?_
  refine ks_getf (T := TX11) (kf := 13) kx_1066 rfl in_X11 cl_X11 (by decide) a0 rfl dX11_seal_39 rfl ?_
  refine ks_aaldN (i := dp) (b := (bkN (B dp))) (by decide) h421 rfl (by omega) (by decide) (hbf1 dp (by omega)) dX11_seal_42 rfl ?_
  refine ks_getf (T := TX0) (kf := 3) kx_944 rfl in_X0 cl_X0 (by decide) oy1.1 rfl dX11_seal_43 rfl ?_
  refine ks_iload_n dX11_seal_46 rfl rfl ?_
  refine ks_callV (n := 3) (M' := mX11_draw) (c_jd_draw0 (d := d) a0j (hD.up w1 (by decide)) hdc (w1.st hK (by unfold ks_B; decide)) (hh.up w1 (by decide)) (hw.up w1 (by decide) (by decide)) (hd.up w1 (by decide) (by decide)) (w1.at h53 (by decide)) kg0 (w1.at h54 (by decide)) kr0 (w1.at h55 (by decide)) oy1.2.2.2.2.1 oy1.2.2.2.2.2.2.2.1 (by omega)) a0 cl_X11 rfl kx_854 kx_856 kxp_6 kx_1 kx_857 (by decide +kernel) rfl (by decide) (Nat.le_of_ble_eq_true rfl) rfl dX11_seal_47 rfl (fun z2 T2 y2 => ?_)
  obtain ⟨rfl, w2, hh2, ⟨ow2, W2⟩, ⟨g53, k53, e53⟩, ⟨g54, k54, e54⟩, B2⟩ := y2
  have ehs : bytL g4y 0 32 = bytL (hsB (bkM (B dp))) 0 32 := bytL_c (fun k hk => by rw [Nat.zero_add]; exact hsy k hk)
  have eM : drC (drH 0 (bytL g4y 0 32) dt (nI bt) Ds dc ++ cntL dc) Ds dc = some (slM 0 B dp dt Ds dc) := by
    unfold drC
    rw [ehs, ← hbt]
    exact if_pos hfit
  rw [eM] at B2
  have h80 : 80 ≤ (slM 0 B dp dt Ds dc).length := by
    unfold slM
    rw [List.length_append, List.length_append, drH_len _ _ _ _ _ _ (bytL_len _ _ _)]
    omega
  unfold slF
  rw [hbt]
  obtain ⟨Mb, hMb⟩ : ∃ m, slM 0 B dp dt Ds dc = m := ⟨_, rfl⟩
  rw [hMb] at B2 h80 hfit ⊢
  obtain ⟨l3, g3, -, -, -, a3, ⟨q3, -⟩⟩ := id B2
  have b0 := w2.at a0 (by decide)
  have b0j : T2.2.2 0 = some (jdO dc dp dt rs) := b0
  have Tg2 : tg_ok T2 N1 := Tg1.up w2 (by decide) (by decide) (fun h => absurd h (by decide)) (fun h => absurd h (by decide))
  have X2 := X1.up w2 (by decide)
  have h41b : T2.2.2 41 = some (chO n best cc tk) := X2.1
  have K2 := w2.st (w1.st hK (by unfold ks_B; decide)) (by unfold ks_B; decide)
  have t2 := (hT.up w1 (by decide) (by decide)).up w2 (by decide) (by decide)
  refine ks_aload_n dX11_seal_50 rfl rfl ?_
  refine ks_getf (T := TX11) (kf := 1) kx_1054 rfl in_X11 cl_X11 (by decide) b0 rfl dX11_seal_51 rfl ?_
  refine ks_getf (T := TX1) (kf := 2) kx_66 rfl in_X1 cl_X1 (by decide) a3 rfl dX11_seal_54 rfl ?_
  refine ks_if_eqN (tgt := 68) (by decide) dX11_seal_57 (by decide) rfl (fun _ => ?_) (fun h => absurd h (by decide))
  refine ks_aload_n dX11_seal_68 rfl rfl ?_
  refine ks_iload_n dX11_seal_69 rfl rfl ?_
  refine ks_iload_n dX11_seal_70 rfl rfl ?_
  refine ks_iconst (x := nI 3) dX11_seal_71 (by decide) rfl ?_
  refine ks_icmp_eqN (tgt := 79) (by decide) (by decide) dX11_seal_72 (by decide) rfl (fun h => absurd h (by decide)) (fun _ => ?_)
  refine ks_iconst (x := nI 1) dX11_seal_75 (by decide) rfl ?_
  refine ks_goto (tgt := 80) dX11_seal_76 (by decide) ?_
  refine ks_ti (y := ks_bo true) rfl ?_
  refine ks_callV (n := 2) (M' := mX11_findNonce) (c_jd_findNonce (d := d + 1) (wn := true) b0j h41b B2 h80 Tg2 hdb hh2 K2 e54 k54) b0 cl_X11 rfl kx_912 kx_914 kxp_10 kx_1 kx_915 (by decide +kernel) rfl (by decide) (Nat.le_of_ble_eq_true rfl) rfl dX11_seal_80 rfl (fun z3 T3 y3 => ?_)
  obtain ⟨rfl, w3, hh3, ⟨N3, Tg3⟩, ⟨g54b, k54b, e54b⟩, B3⟩ := y3
  have c0 := w3.at b0 (by decide)
  have t3 := t2.up w3 (by decide) (by decide)
  obtain ⟨l1, g1, -, -, -, a1, -⟩ := id t3
  refine ks_aload_n dX11_seal_83 rfl rfl ?_
  refine ks_getf (T := TX11) (kf := 0) kx_1053 rfl in_X11 cl_X11 (by decide) c0 rfl dX11_seal_84 rfl ?_
  refine ks_callV (n := 0) (M' := mX1_clear) (bf_clear (d := d + 6) t3) a1 cl_X1 rfl kx_842 kx_843 kx_844 kx_2 kx_845 (by decide +kernel) rfl (by decide) (Nat.le_of_ble_eq_true rfl) rfl dX11_seal_87 rfl (fun z4 T4 y4 => ?_)
  obtain ⟨rfl, w4, t4⟩ := y4
  have d0 := w4.at c0 (by decide)
  have B4 := B3.up w4 (by decide) (by decide)
  obtain ⟨l4, g4, kg4, l416, e4, a34, ⟨q4, hg4⟩⟩ := id B4
  obtain ⟨l5, g5, -, -, -, a14, -⟩ := id t4
  refine ks_aload_n dX11_seal_90 rfl rfl ?_
  refine ks_getf (T := TX11) (kf := 0) kx_1053 rfl in_X11 cl_X11 (by decide) d0 rfl dX11_seal_91 rfl ?_
  refine ks_aload_n dX11_seal_94 rfl rfl ?_
  refine ks_getf (T := TX11) (kf := 1) kx_1054 rfl in_X11 cl_X11 (by decide) d0 rfl dX11_seal_95 rfl ?_
  refine ks_getf (T := TX1) (kf := 0) kx_54 rfl in_X1 cl_X1 (by decide) a34 rfl dX11_seal_98 rfl ?_
  refine ks_iconst (x := nI 0) dX11_seal_101 (by decide) rfl ?_
  refine ks_aload_n dX11_seal_102 rfl rfl ?_
  refine ks_getf (T := TX11) (kf := 1) kx_1054 rfl in_X11 cl_X11 (by decide) d0 rfl dX11_seal_103 rfl ?_
  refine ks_getf (T := TX1) (kf := 1) kx_59 rfl in_X1 cl_X1 (by decide) a34 rfl dX11_seal_106 rfl ?_
  refine ks_callV (n := 3) (M' := mX1_addBytes) (bf_bytes (d := d + 5) (i := 0) (n := l4) t4 (by decide) e4 kg4 (by omega) (by decide)) a14 cl_X1 rfl kx_910 kx_872 kx_873 kx_2 kx_874 (by decide +kernel) rfl (by decide) (Nat.le_of_ble_eq_true rfl) rfl dX11_seal_109 rfl (fun z5 T5 y5 => ?_)
  obtain ⟨rfl, w5, t5⟩ := y5
  obtain ⟨Mf, hMf⟩ : ∃ m, sNc Mb (fnN Mb true (tg_num bt) 4096 0) = m := ⟨_, rfl⟩
  have lMf : Mf.length = Mb.length := by rw [← hMf, sNc_len]
  rw [hMf] at q4 hg4
  have eb : bytL g4 0 l4 = Mf := by
    rw [← q4]
    refine List.ext_getElem (by rw [bytL_len]) (fun k h1 h2 => ?_)
    simp only [bytL, List.getElem_map, List.getElem_range, Nat.zero_add]
    rw [hg4 k (by omega)]
    simp [List.getD, h2]
  rw [eb, bfA_ok (by rw [List.length_nil]; omega), List.nil_append] at t5
  have d05 := w5.at d0 (by decide)
  obtain ⟨l6, g6, -, -, -, a15, ⟨q6, -⟩⟩ := id t5
  refine ks_aload_n dX11_seal_112 rfl rfl ?_
  refine ks_getf (T := TX11) (kf := 0) kx_1053 rfl in_X11 cl_X11 (by decide) d05 rfl dX11_seal_113 rfl ?_
  refine ks_getf (T := TX1) (kf := 1) kx_59 rfl in_X1 cl_X1 (by decide) a15 rfl dX11_seal_116 rfl ?_
  refine ks_iret rfl dX11_seal_119 ?_
  rw [← q6, lMf, show decide ((0 : Nat) ≠ 3) = true from rfl, hMf]
  refine ⟨rfl, ((((w1.mono (by decide)).trans (w2.mono (by decide))).trans (w3.mono (by decide))).trans (w4.mono (by decide))).trans (w5.mono (by decide)), (hh3.up w4 (by decide)).up w5 (by decide), ⟨_, (Tg3.up w4 (by decide) (by decide) (fun h => absurd h (by decide)) (fun h => absurd h (by decide))).up w5 (by decide) (by decide) (fun h => absurd h (by decide)) (fun h => absurd h (by decide))⟩, ⟨_, ((W2.up w3 (by decide) (by decide)).up w4 (by decide) (by decide)).up w5 (by decide) (by decide)⟩, ⟨_, B4.up w5 (by decide) (by decide)⟩, ⟨_, k53, w5.at (w4.at (w3.at e53 (by decide)) (by decide)) (by decide)⟩, ⟨_, k54b, w5.at (w4.at e54b (by decide)) (by decide)⟩, t5⟩
set_option maxRecDepth 100000 in
set_option maxHeartbeats 800000 in
theorem c_jd_seal1 {l : Launch} {G : ks_G} {d : Nat} {S : ks_S} {dc dp : Nat} {dt : Int64} {rs : Int32} (h0 : S.2.2 0 = some (jdO dc dp dt rs)) {n best : Nat} {cc : Int32} {tk : Int64} {B : Nat → Bk} (hX : chX S n best cc tk B) {T : List Nat} {Ds : Nat → dTx} {od ow : Option (List Nat)} {gi0 gr0 : Nat → Nat} {N0 : Nat} (hT : bfS S 1 2 1600 (some T)) (hD : dfS S Ds) (hdc : dc ≤ 12) (hK : ks_stOK S) (hh : hsO S) (hw : bfS S 5 6 8000 ow) (hd : bfS S 3 4 1600 od) (h53 : S.2.2 53 = some (kB 384 gi0)) (kg0 : kO gi0) (h54 : S.2.2 54 = some (kB 32 gr0)) (kr0 : kO gr0) (h55 : S.2.2 55 = some (kB 32 (fun _ => 0))) (hTg : tg_ok S N0) (hW : chW n B) (hdp : dp < n) (hhei : ∀ i, i < n → bkH (B i) < 2 ^ 30) (hdb : dueB B dp < 2 ^ 32) (hb9 : 284 ≤ bkN (B dp)) (hfit : (slM 1 B dp dt Ds dc).length ≤ 1600) : ks_P l G yX11_seal mX11_seal (d + 7) [.ref 0, .int (nI 1)] S (fun z S' => z = some (.int (nI (slM 1 B dp dt Ds dc).length)) ∧ ks_up S S' [45, 3, 4, 5, 6, 9, 8, 10, 11, 12, 13, 53, 54, 2, 1] ∧ hsO S' ∧ (∃ N, tg_ok S' N) ∧ (∃ ow, bfS S' 5 6 8000 ow) ∧ (∃ od, bfS S' 3 4 1600 od) ∧ (∃ g, kO g ∧ S'.2.2 53 = some (kB 384 g)) ∧ (∃ g, kO g ∧ S'.2.2 54 = some (kB 32 g)) ∧ bfS S' 1 2 1600 (some (slF 1 B dp dt Ds dc))) := by
  have h0j := h0
  have h0 : S.2.2 0 = some (.inr (14, [.ref 1, .ref 3, .ref 5, .ref 7, .ref 14, .ref 20, .ref 27, .ref 41, .ref 52, .ref 53, .ref 54, .ref 55, .int (nI dc), .int (nI dp), .long dt, .int rs])) := h0
  obtain ⟨hO, ⟨bf, h42, hbf⟩, hB, hn60⟩ := id hX
  obtain ⟨g1y, f2y, g3y, g4y, oy, ley, egy, bly, sty, idy, hsy, coy⟩ := hB dp (by omega)
  refine ks_of (by decide) rfl rfl (Nat.le_of_ble_eq_true rfl) ?_
  show ks_X l G mX11_seal (d + 7) 0 [(0, .ref 0), (1, .int (nI 1))] [] S _
  refine ks_iload_n dX11_seal_0 rfl rfl ?_
  refine ks_if_ltN (tgt := 9) (by decide) dX11_seal_1 (by decide) rfl ?_
  refine ks_iload_n dX11_seal_4 rfl rfl ?_
  refine ks_iconst (x := nI 5) dX11_seal_5 (by decide) rfl ?_
  refine ks_icmp_leN (tgt := 17) (by decide) (by decide) dX11_seal_6 (by decide) rfl (fun _ => ?_) (fun h => absurd h (by decide))
  refine ks_aload_n dX11_seal_17 rfl rfl ?_
  refine ks_getf (T := TX11) (kf := 7) kx_1060 rfl in_X11 cl_X11 (by decide) h0 rfl dX11_seal_18 rfl ?_
  refine ks_aload_n dX11_seal_21 rfl rfl ?_
  refine ks_getf (T := TX11) (kf := 13) kx_1066 rfl in_X11 cl_X11 (by decide) h0 rfl dX11_seal_22 rfl ?_
  refine ks_callV (n := 1) (M' := mX2_dueBits) (c_ch_dueBits (d := d + 3) hX hW hdp hTg hhei) hO cl_X2 rfl kx_1392 kx_1393 kx_1394 kx_26 kx_1395 (by decide +kernel) rfl (by decide) (Nat.le_of_ble_eq_true rfl) rfl dX11_seal_25 rfl (fun z1 T1 y1 => ?_)
  obtain ⟨rfl, w1, N1, Tg1⟩ := y1
  have a0 := w1.at h0 (by decide)
  have a0j : T1.2.2 0 = some (jdO dc dp dt rs) := a0
  have X1 := hX.up w1 (by decide)
  obtain ⟨hO1, ⟨bf1, h421, hbf1⟩, hB1, -⟩ := id X1
  have l45 : ∀ x ∈ ([45] : List Nat), x < 56 := by decide
  have oy1 := oy.up w1 (fun x hx => by have := l45 x hx; omega)
  obtain ⟨bt, hbt⟩ : ∃ b, dueB B dp = b := ⟨_, rfl⟩
  rw [hbt] at hdb ⊢
  refine ks_istore_n dX11_seal_28 (by decide) rfl ?_
  refine ks_sub [(2, _), (0, _), (1, _)] rfl ?_
  refine ks_aload_n dX11_seal_29 rfl rfl ?_
  refine ks_iload_n dX11_seal_30 rfl rfl ?_
  refine ks_aload_n dX11_seal_31 rfl rfl ?_
  refine ks_getf (T := TX11) (kf := 7) kx_1060 rfl in_X11 cl_X11 (by decide) a0 rfl dX11_seal_32 rfl ?_
  refine ks_getf (T := TX2) (kf := 0) kx_730 rfl in_X2 cl_X2 (by decide) hO1 rfl dX11_seal_35 rfl ?_
  refine ks_aload_n dX11_seal_38 rfl rfl ?_
  refine ks_getf (T := TX11) (kf := 13) kx_1066 rfl in_X11 cl_X11 (by decide) a0 rfl dX11_seal_39 rfl ?_
  refine ks_aaldN (i := dp) (b := (bkN (B dp))) (by decide) h421 rfl (by omega) (by decide) (hbf1 dp (by omega)) dX11_seal_42 rfl ?_
  refine ks_getf (T := TX0) (kf := 3) kx_944 rfl in_X0 cl_X0 (by decide) oy1.1 rfl dX11_seal_43 rfl ?_
  refine ks_iload_n dX11_seal_46 rfl rfl ?_
  refine ks_callV (n := 3) (M' := mX11_draw) (c_jd_draw1 (d := d) a0j (hD.up w1 (by decide)) hdc (w1.st hK (by unfold ks_B; decide)) (hh.up w1 (by decide)) (hw.up w1 (by decide) (by decide)) (hd.up w1 (by decide) (by decide)) (w1.at h53 (by decide)) kg0 (w1.at h54 (by decide)) kr0 (w1.at h55 (by decide)) oy1.2.2.2.2.1 oy1.2.2.2.2.2.2.2.1 (by omega)) a0 cl_X11 rfl kx_854 kx_856 kxp_6 kx_1 kx_857 (by decide +kernel) rfl (by decide) (Nat.le_of_ble_eq_true rfl) rfl dX11_seal_47 rfl (fun z2 T2 y2 => ?_)
  obtain ⟨rfl, w2, hh2, ⟨ow2, W2⟩, ⟨g53, k53, e53⟩, ⟨g54, k54, e54⟩, B2⟩ := y2
  have ehs : bytL g4y 0 32 = bytL (hsB (bkM (B dp))) 0 32 := bytL_c (fun k hk => by rw [Nat.zero_add]; exact hsy k hk)
  have eM : drC (drH 1 (bytL g4y 0 32) dt (nI bt) Ds dc ++ cntL dc) Ds dc = some (slM 1 B dp dt Ds dc) := by
    unfold drC
    rw [ehs, ← hbt]
    exact if_pos hfit
  rw [eM] at B2
  have h80 : 80 ≤ (slM 1 B dp dt Ds dc).length := by
    unfold slM
    rw [List.length_append, List.length_append, drH_len _ _ _ _ _ _ (bytL_len _ _ _)]
    omega
  unfold slF
  rw [hbt]
  obtain ⟨Mb, hMb⟩ : ∃ m, slM 1 B dp dt Ds dc = m := ⟨_, rfl⟩
  rw [hMb] at B2 h80 hfit ⊢
  obtain ⟨l3, g3, -, -, -, a3, ⟨q3, -⟩⟩ := id B2
  have b0 := w2.at a0 (by decide)
  have b0j : T2.2.2 0 = some (jdO dc dp dt rs) := b0
  have Tg2 : tg_ok T2 N1 := Tg1.up w2 (by decide) (by decide) (fun h => absurd h (by decide)) (fun h => absurd h (by decide))
  have X2 := X1.up w2 (by decide)
  have h41b : T2.2.2 41 = some (chO n best cc tk) := X2.1
  have K2 := w2.st (w1.st hK (by unfold ks_B; decide)) (by unfold ks_B; decide)
  have t2 := (hT.up w1 (by decide) (by decide)).up w2 (by decide) (by decide)
  refine ks_aload_n dX11_seal_50 rfl rfl ?_
  refine ks_getf (T := TX11) (kf := 1) kx_1054 rfl in_X11 cl_X11 (by decide) b0 rfl dX11_seal_51 rfl ?_
  refine ks_getf (T := TX1) (kf := 2) kx_66 rfl in_X1 cl_X1 (by decide) a3 rfl dX11_seal_54 rfl ?_
  refine ks_if_eqN (tgt := 68) (by decide) dX11_seal_57 (by decide) rfl (fun _ => ?_) (fun h => absurd h (by decide))
  refine ks_aload_n dX11_seal_68 rfl rfl ?_
  refine ks_iload_n dX11_seal_69 rfl rfl ?_
  refine ks_iload_n dX11_seal_70 rfl rfl ?_
  refine ks_iconst (x := nI 3) dX11_seal_71 (by decide) rfl ?_
  refine ks_icmp_eqN (tgt := 79) (by decide) (by decide) dX11_seal_72 (by decide) rfl (fun h => absurd h (by decide)) (fun _ => ?_)
  refine ks_iconst (x := nI 1) dX11_seal_75 (by decide) rfl ?_
  refine ks_goto (tgt := 80) dX11_seal_76 (by decide) ?_
  refine ks_ti (y := ks_bo true) rfl ?_
  refine ks_callV (n := 2) (M' := mX11_findNonce) (c_jd_findNonce (d := d + 1) (wn := true) b0j h41b B2 h80 Tg2 hdb hh2 K2 e54 k54) b0 cl_X11 rfl kx_912 kx_914 kxp_10 kx_1 kx_915 (by decide +kernel) rfl (by decide) (Nat.le_of_ble_eq_true rfl) rfl dX11_seal_80 rfl (fun z3 T3 y3 => ?_)
  obtain ⟨rfl, w3, hh3, ⟨N3, Tg3⟩, ⟨g54b, k54b, e54b⟩, B3⟩ := y3
  have c0 := w3.at b0 (by decide)
  have t3 := t2.up w3 (by decide) (by decide)
  obtain ⟨l1, g1, -, -, -, a1, -⟩ := id t3
  refine ks_aload_n dX11_seal_83 rfl rfl ?_
  refine ks_getf (T := TX11) (kf := 0) kx_1053 rfl in_X11 cl_X11 (by decide) c0 rfl dX11_seal_84 rfl ?_
  refine ks_callV (n := 0) (M' := mX1_clear) (bf_clear (d := d + 6) t3) a1 cl_X1 rfl kx_842 kx_843 kx_844 kx_2 kx_845 (by decide +kernel) rfl (by decide) (Nat.le_of_ble_eq_true rfl) rfl dX11_seal_87 rfl (fun z4 T4 y4 => ?_)
  obtain ⟨rfl, w4, t4⟩ := y4
  have d0 := w4.at c0 (by decide)
  have B4 := B3.up w4 (by decide) (by decide)
  obtain ⟨l4, g4, kg4, l416, e4, a34, ⟨q4, hg4⟩⟩ := id B4
  obtain ⟨l5, g5, -, -, -, a14, -⟩ := id t4
  refine ks_aload_n dX11_seal_90 rfl rfl ?_
  refine ks_getf (T := TX11) (kf := 0) kx_1053 rfl in_X11 cl_X11 (by decide) d0 rfl dX11_seal_91 rfl ?_
  refine ks_aload_n dX11_seal_94 rfl rfl ?_
  refine ks_getf (T := TX11) (kf := 1) kx_1054 rfl in_X11 cl_X11 (by decide) d0 rfl dX11_seal_95 rfl ?_
  refine ks_getf (T := TX1) (kf := 0) kx_54 rfl in_X1 cl_X1 (by decide) a34 rfl dX11_seal_98 rfl ?_
  refine ks_iconst (x := nI 0) dX11_seal_101 (by decide) rfl ?_
  refine ks_aload_n dX11_seal_102 rfl rfl ?_
  refine ks_getf (T := TX11) (kf := 1) kx_1054 rfl in_X11 cl_X11 (by decide) d0 rfl dX11_seal_103 rfl ?_
  refine ks_getf (T := TX1) (kf := 1) kx_59 rfl in_X1 cl_X1 (by decide) a34 rfl dX11_seal_106 rfl ?_
  refine ks_callV (n := 3) (M' := mX1_addBytes) (bf_bytes (d := d + 5) (i := 0) (n := l4) t4 (by decide) e4 kg4 (by omega) (by decide)) a14 cl_X1 rfl kx_910 kx_872 kx_873 kx_2 kx_874 (by decide +kernel) rfl (by decide) (Nat.le_of_ble_eq_true rfl) rfl dX11_seal_109 rfl (fun z5 T5 y5 => ?_)
  obtain ⟨rfl, w5, t5⟩ := y5
  obtain ⟨Mf, hMf⟩ : ∃ m, sNc Mb (fnN Mb true (tg_num bt) 4096 0) = m := ⟨_, rfl⟩
  have lMf : Mf.length = Mb.length := by rw [← hMf, sNc_len]
  rw [hMf] at q4 hg4
  have eb : bytL g4 0 l4 = Mf := by
    rw [← q4]
    refine List.ext_getElem (by rw [bytL_len]) (fun k h1 h2 => ?_)
    simp only [bytL, List.getElem_map, List.getElem_range, Nat.zero_add]
    rw [hg4 k (by omega)]
    simp [List.getD, h2]
  rw [eb, bfA_ok (by rw [List.length_nil]; omega), List.nil_append] at t5
  have d05 := w5.at d0 (by decide)
  obtain ⟨l6, g6, -, -, -, a15, ⟨q6, -⟩⟩ := id t5
  refine ks_aload_n dX11_seal_112 rfl rfl ?_
  refine ks_getf (T := TX11) (kf := 0) kx_1053 rfl in_X11 cl_X11 (by decide) d05 rfl dX11_seal_113 rfl ?_
  refine ks_getf (T := TX1) (kf := 1) kx_59 rfl in_X1 cl_X1 (by decide) a15 rfl dX11_seal_116 rfl ?_
  refine ks_iret rfl dX11_seal_119 ?_
  rw [← q6, lMf, show decide ((1 : Nat) ≠ 3) = true from rfl, hMf]
  refine ⟨rfl, ((((w1.mono (by decide)).trans (w2.mono (by decide))).trans (w3.mono (by decide))).trans (w4.mono (by decide))).trans (w5.mono (by decide)), (hh3.up w4 (by decide)).up w5 (by decide), ⟨_, (Tg3.up w4 (by decide) (by decide) (fun h => absurd h (by decide)) (fun h => absurd h (by decide))).up w5 (by decide) (by decide) (fun h => absurd h (by decide)) (fun h => absurd h (by decide))⟩, ⟨_, ((W2.up w3 (by decide) (by decide)).up w4 (by decide) (by decide)).up w5 (by decide) (by decide)⟩, ⟨_, B4.up w5 (by decide) (by decide)⟩, ⟨_, k53, w5.at (w4.at (w3.at e53 (by decide)) (by decide)) (by decide)⟩, ⟨_, k54b, w5.at (w4.at e54b (by decide)) (by decide)⟩, t5⟩
set_option maxRecDepth 100000 in
set_option maxHeartbeats 800000 in
theorem c_jd_seal2 {l : Launch} {G : ks_G} {d : Nat} {S : ks_S} {dc dp : Nat} {dt : Int64} {rs : Int32} (h0 : S.2.2 0 = some (jdO dc dp dt rs)) {n best : Nat} {cc : Int32} {tk : Int64} {B : Nat → Bk} (hX : chX S n best cc tk B) {T : List Nat} {Ds : Nat → dTx} {od ow : Option (List Nat)} {gi0 gr0 : Nat → Nat} {N0 : Nat} (hT : bfS S 1 2 1600 (some T)) (hD : dfS S Ds) (hdc : dc ≤ 12) (hK : ks_stOK S) (hh : hsO S) (hw : bfS S 5 6 8000 ow) (hd : bfS S 3 4 1600 od) (h53 : S.2.2 53 = some (kB 384 gi0)) (kg0 : kO gi0) (h54 : S.2.2 54 = some (kB 32 gr0)) (kr0 : kO gr0) (h55 : S.2.2 55 = some (kB 32 (fun _ => 0))) (hTg : tg_ok S N0) (hW : chW n B) (hdp : dp < n) (hhei : ∀ i, i < n → bkH (B i) < 2 ^ 30) (hdb : dueB B dp < 2 ^ 32) (hb9 : 284 ≤ bkN (B dp)) (hfit : (slM 2 B dp dt Ds dc).length ≤ 1600) : ks_P l G yX11_seal mX11_seal (d + 7) [.ref 0, .int (nI 2)] S (fun z S' => z = some (.int (nI (slM 2 B dp dt Ds dc).length)) ∧ ks_up S S' [45, 3, 4, 5, 6, 9, 8, 10, 11, 12, 13, 53, 54, 2, 1] ∧ hsO S' ∧ (∃ N, tg_ok S' N) ∧ (∃ ow, bfS S' 5 6 8000 ow) ∧ (∃ od, bfS S' 3 4 1600 od) ∧ (∃ g, kO g ∧ S'.2.2 53 = some (kB 384 g)) ∧ (∃ g, kO g ∧ S'.2.2 54 = some (kB 32 g)) ∧ bfS S' 1 2 1600 (some (slF 2 B dp dt Ds dc))) := by
  have h0j := h0
  have h0 : S.2.2 0 = some (.inr (14, [.ref 1, .ref 3, .ref 5, .ref 7, .ref 14, .ref 20, .ref 27, .ref 41, .ref 52, .ref 53, .ref 54, .ref 55, .int (nI dc), .int (nI dp), .long dt, .int rs])) := h0
  obtain ⟨hO, ⟨bf, h42, hbf⟩, hB, hn60⟩ := id hX
  obtain ⟨g1y, f2y, g3y, g4y, oy, ley, egy, bly, sty, idy, hsy, coy⟩ := hB dp (by omega)
  refine ks_of (by decide) rfl rfl (Nat.le_of_ble_eq_true rfl) ?_
  show ks_X l G mX11_seal (d + 7) 0 [(0, .ref 0), (1, .int (nI 2))] [] S _
  refine ks_iload_n dX11_seal_0 rfl rfl ?_
  refine ks_if_ltN (tgt := 9) (by decide) dX11_seal_1 (by decide) rfl ?_
  refine ks_iload_n dX11_seal_4 rfl rfl ?_
  refine ks_iconst (x := nI 5) dX11_seal_5 (by decide) rfl ?_
  refine ks_icmp_leN (tgt := 17) (by decide) (by decide) dX11_seal_6 (by decide) rfl (fun _ => ?_) (fun h => absurd h (by decide))
  refine ks_aload_n dX11_seal_17 rfl rfl ?_
  refine ks_getf (T := TX11) (kf := 7) kx_1060 rfl in_X11 cl_X11 (by decide) h0 rfl dX11_seal_18 rfl ?_
  refine ks_aload_n dX11_seal_21 rfl rfl ?_
  refine ks_getf (T := TX11) (kf := 13) kx_1066 rfl in_X11 cl_X11 (by decide) h0 rfl dX11_seal_22 rfl ?_
  refine ks_callV (n := 1) (M' := mX2_dueBits) (c_ch_dueBits (d := d + 3) hX hW hdp hTg hhei) hO cl_X2 rfl kx_1392 kx_1393 kx_1394 kx_26 kx_1395 (by decide +kernel) rfl (by decide) (Nat.le_of_ble_eq_true rfl) rfl dX11_seal_25 rfl (fun z1 T1 y1 => ?_)
  obtain ⟨rfl, w1, N1, Tg1⟩ := y1
  have a0 := w1.at h0 (by decide)
  have a0j : T1.2.2 0 = some (jdO dc dp dt rs) := a0
  have X1 := hX.up w1 (by decide)
  obtain ⟨hO1, ⟨bf1, h421, hbf1⟩, hB1, -⟩ := id X1
  have l45 : ∀ x ∈ ([45] : List Nat), x < 56 := by decide
  have oy1 := oy.up w1 (fun x hx => by have := l45 x hx; omega)
  obtain ⟨bt, hbt⟩ : ∃ b, dueB B dp = b := ⟨_, rfl⟩
  rw [hbt] at hdb ⊢
  refine ks_istore_n dX11_seal_28 (by decide) rfl ?_
  refine ks_sub [(2, _), (0, _), (1, _)] rfl ?_
  refine ks_aload_n dX11_seal_29 rfl rfl ?_
  refine ks_iload_n dX11_seal_30 rfl rfl ?_
  refine ks_aload_n dX11_seal_31 rfl rfl ?_
  refine ks_getf (T := TX11) (kf := 7) kx_1060 rfl in_X11 cl_X11 (by decide) a0 rfl dX11_seal_32 rfl ?_
  refine ks_getf (T := TX2) (kf := 0) kx_730 rfl in_X2 cl_X2 (by decide) hO1 rfl dX11_seal_35 rfl ?_
  refine ks_aload_n dX11_seal_38 rfl rfl ?_
  refine ks_getf (T := TX11) (kf := 13) kx_1066 rfl in_X11 cl_X11 (by decide) a0 rfl dX11_seal_39 rfl ?_
  refine ks_aaldN (i := dp) (b := (bkN (B dp))) (by decide) h421 rfl (by omega) (by decide) (hbf1 dp (by omega)) dX11_seal_42 rfl ?_
  refine ks_getf (T := TX0) (kf := 3) kx_944 rfl in_X0 cl_X0 (by decide) oy1.1 rfl dX11_seal_43 rfl ?_
  refine ks_iload_n dX11_seal_46 rfl rfl ?_
  refine ks_callV (n := 3) (M' := mX11_draw) (c_jd_draw2 (d := d) a0j (hD.up w1 (by decide)) hdc (w1.st hK (by unfold ks_B; decide)) (hh.up w1 (by decide)) (hw.up w1 (by decide) (by decide)) (hd.up w1 (by decide) (by decide)) (w1.at h53 (by decide)) kg0 (w1.at h54 (by decide)) kr0 (w1.at h55 (by decide)) oy1.2.2.2.2.1 oy1.2.2.2.2.2.2.2.1 (by omega)) a0 cl_X11 rfl kx_854 kx_856 kxp_6 kx_1 kx_857 (by decide +kernel) rfl (by decide) (Nat.le_of_ble_eq_true rfl) rfl dX11_seal_47 rfl (fun z2 T2 y2 => ?_)
  obtain ⟨rfl, w2, hh2, ⟨ow2, W2⟩, ⟨g53, k53, e53⟩, ⟨g54, k54, e54⟩, B2⟩ := y2
  have ehs : bytL g4y 0 32 = bytL (hsB (bkM (B dp))) 0 32 := bytL_c (fun k hk => by rw [Nat.zero_add]; exact hsy k hk)
  have eM : drC (drH 2 (bytL g4y 0 32) dt (nI bt) Ds dc ++ cntL dc) Ds dc = some (slM 2 B dp dt Ds dc) := by
    unfold drC
    rw [ehs, ← hbt]
    exact if_pos hfit
  rw [eM] at B2
  have h80 : 80 ≤ (slM 2 B dp dt Ds dc).length := by
    unfold slM
    rw [List.length_append, List.length_append, drH_len _ _ _ _ _ _ (bytL_len _ _ _)]
    omega
  unfold slF
  rw [hbt]
  obtain ⟨Mb, hMb⟩ : ∃ m, slM 2 B dp dt Ds dc = m := ⟨_, rfl⟩
  rw [hMb] at B2 h80 hfit ⊢
  obtain ⟨l3, g3, -, -, -, a3, ⟨q3, -⟩⟩ := id B2
  have b0 := w2.at a0 (by decide)
  have b0j : T2.2.2 0 = some (jdO dc dp dt rs) := b0
  have Tg2 : tg_ok T2 N1 := Tg1.up w2 (by decide) (by decide) (fun h => absurd h (by decide)) (fun h => absurd h (by decide))
  have X2 := X1.up w2 (by decide)
  have h41b : T2.2.2 41 = some (chO n best cc tk) := X2.1
  have K2 := w2.st (w1.st hK (by unfold ks_B; decide)) (by unfold ks_B; decide)
  have t2 := (hT.up w1 (by decide) (by decide)).up w2 (by decide) (by decide)
  refine ks_aload_n dX11_seal_50 rfl rfl ?_
  refine ks_getf (T := TX11) (kf := 1) kx_1054 rfl in_X11 cl_X11 (by decide) b0 rfl dX11_seal_51 rfl ?_
  refine ks_getf (T := TX1) (kf := 2) kx_66 rfl in_X1 cl_X1 (by decide) a3 rfl dX11_seal_54 rfl ?_
  refine ks_if_eqN (tgt := 68) (by decide) dX11_seal_57 (by decide) rfl (fun _ => ?_) (fun h => absurd h (by decide))
  refine ks_aload_n dX11_seal_68 rfl rfl ?_
  refine ks_iload_n dX11_seal_69 rfl rfl ?_
  refine ks_iload_n dX11_seal_70 rfl rfl ?_
  refine ks_iconst (x := nI 3) dX11_seal_71 (by decide) rfl ?_
  refine ks_icmp_eqN (tgt := 79) (by decide) (by decide) dX11_seal_72 (by decide) rfl (fun h => absurd h (by decide)) (fun _ => ?_)
  refine ks_iconst (x := nI 1) dX11_seal_75 (by decide) rfl ?_
  refine ks_goto (tgt := 80) dX11_seal_76 (by decide) ?_
  refine ks_ti (y := ks_bo true) rfl ?_
  refine ks_callV (n := 2) (M' := mX11_findNonce) (c_jd_findNonce (d := d + 1) (wn := true) b0j h41b B2 h80 Tg2 hdb hh2 K2 e54 k54) b0 cl_X11 rfl kx_912 kx_914 kxp_10 kx_1 kx_915 (by decide +kernel) rfl (by decide) (Nat.le_of_ble_eq_true rfl) rfl dX11_seal_80 rfl (fun z3 T3 y3 => ?_)
  obtain ⟨rfl, w3, hh3, ⟨N3, Tg3⟩, ⟨g54b, k54b, e54b⟩, B3⟩ := y3
  have c0 := w3.at b0 (by decide)
  have t3 := t2.up w3 (by decide) (by decide)
  obtain ⟨l1, g1, -, -, -, a1, -⟩ := id t3
  refine ks_aload_n dX11_seal_83 rfl rfl ?_
  refine ks_getf (T := TX11) (kf := 0) kx_1053 rfl in_X11 cl_X11 (by decide) c0 rfl dX11_seal_84 rfl ?_
  refine ks_callV (n := 0) (M' := mX1_clear) (bf_clear (d := d + 6) t3) a1 cl_X1 rfl kx_842 kx_843 kx_844 kx_2 kx_845 (by decide +kernel) rfl (by decide) (Nat.le_of_ble_eq_true rfl) rfl dX11_seal_87 rfl (fun z4 T4 y4 => ?_)
  obtain ⟨rfl, w4, t4⟩ := y4
  have d0 := w4.at c0 (by decide)
  have B4 := B3.up w4 (by decide) (by decide)
  obtain ⟨l4, g4, kg4, l416, e4, a34, ⟨q4, hg4⟩⟩ := id B4
  obtain ⟨l5, g5, -, -, -, a14, -⟩ := id t4
  refine ks_aload_n dX11_seal_90 rfl rfl ?_
  refine ks_getf (T := TX11) (kf := 0) kx_1053 rfl in_X11 cl_X11 (by decide) d0 rfl dX11_seal_91 rfl ?_
  refine ks_aload_n dX11_seal_94 rfl rfl ?_
  refine ks_getf (T := TX11) (kf := 1) kx_1054 rfl in_X11 cl_X11 (by decide) d0 rfl dX11_seal_95 rfl ?_
  refine ks_getf (T := TX1) (kf := 0) kx_54 rfl in_X1 cl_X1 (by decide) a34 rfl dX11_seal_98 rfl ?_
  refine ks_iconst (x := nI 0) dX11_seal_101 (by decide) rfl ?_
  refine ks_aload_n dX11_seal_102 rfl rfl ?_
  refine ks_getf (T := TX11) (kf := 1) kx_1054 rfl in_X11 cl_X11 (by decide) d0 rfl dX11_seal_103 rfl ?_
  refine ks_getf (T := TX1) (kf := 1) kx_59 rfl in_X1 cl_X1 (by decide) a34 rfl dX11_seal_106 rfl ?_
  refine ks_callV (n := 3) (M' := mX1_addBytes) (bf_bytes (d := d + 5) (i := 0) (n := l4) t4 (by decide) e4 kg4 (by omega) (by decide)) a14 cl_X1 rfl kx_910 kx_872 kx_873 kx_2 kx_874 (by decide +kernel) rfl (by decide) (Nat.le_of_ble_eq_true rfl) rfl dX11_seal_109 rfl (fun z5 T5 y5 => ?_)
  obtain ⟨rfl, w5, t5⟩ := y5
  obtain ⟨Mf, hMf⟩ : ∃ m, sNc Mb (fnN Mb true (tg_num bt) 4096 0) = m := ⟨_, rfl⟩
  have lMf : Mf.length = Mb.length := by rw [← hMf, sNc_len]
  rw [hMf] at q4 hg4
  have eb : bytL g4 0 l4 = Mf := by
    rw [← q4]
    refine List.ext_getElem (by rw [bytL_len]) (fun k h1 h2 => ?_)
    simp only [bytL, List.getElem_map, List.getElem_range, Nat.zero_add]
    rw [hg4 k (by omega)]
    simp [List.getD, h2]
  rw [eb, bfA_ok (by rw [List.length_nil]; omega), List.nil_append] at t5
  have d05 := w5.at d0 (by decide)
  obtain ⟨l6, g6, -, -, -, a15, ⟨q6, -⟩⟩ := id t5
  refine ks_aload_n dX11_seal_112 rfl rfl ?_
  refine ks_getf (T := TX11) (kf := 0) kx_1053 rfl in_X11 cl_X11 (by decide) d05 rfl dX11_seal_113 rfl ?_
  refine ks_getf (T := TX1) (kf := 1) kx_59 rfl in_X1 cl_X1 (by decide) a15 rfl dX11_seal_116 rfl ?_
  refine ks_iret rfl dX11_seal_119 ?_
  rw [← q6, lMf, show decide ((2 : Nat) ≠ 3) = true from rfl, hMf]
  refine ⟨rfl, ((((w1.mono (by decide)).trans (w2.mono (by decide))).trans (w3.mono (by decide))).trans (w4.mono (by decide))).trans (w5.mono (by decide)), (hh3.up w4 (by decide)).up w5 (by decide), ⟨_, (Tg3.up w4 (by decide) (by decide) (fun h => absurd h (by decide)) (fun h => absurd h (by decide))).up w5 (by decide) (by decide) (fun h => absurd h (by decide)) (fun h => absurd h (by decide))⟩, ⟨_, ((W2.up w3 (by decide) (by decide)).up w4 (by decide) (by decide)).up w5 (by decide) (by decide)⟩, ⟨_, B4.up w5 (by decide) (by decide)⟩, ⟨_, k53, w5.at (w4.at (w3.at e53 (by decide)) (by decide)) (by decide)⟩, ⟨_, k54b, w5.at (w4.at e54b (by decide)) (by decide)⟩, t5⟩
set_option maxRecDepth 100000 in
set_option maxHeartbeats 800000 in
theorem c_jd_seal3 {l : Launch} {G : ks_G} {d : Nat} {S : ks_S} {dc dp : Nat} {dt : Int64} {rs : Int32} (h0 : S.2.2 0 = some (jdO dc dp dt rs)) {n best : Nat} {cc : Int32} {tk : Int64} {B : Nat → Bk} (hX : chX S n best cc tk B) {T : List Nat} {Ds : Nat → dTx} {od ow : Option (List Nat)} {gi0 gr0 : Nat → Nat} {N0 : Nat} (hT : bfS S 1 2 1600 (some T)) (hD : dfS S Ds) (hdc : dc ≤ 12) (hK : ks_stOK S) (hh : hsO S) (hw : bfS S 5 6 8000 ow) (hd : bfS S 3 4 1600 od) (h53 : S.2.2 53 = some (kB 384 gi0)) (kg0 : kO gi0) (h54 : S.2.2 54 = some (kB 32 gr0)) (kr0 : kO gr0) (h55 : S.2.2 55 = some (kB 32 (fun _ => 0))) (hTg : tg_ok S N0) (hW : chW n B) (hdp : dp < n) (hhei : ∀ i, i < n → bkH (B i) < 2 ^ 30) (hdb : dueB B dp < 2 ^ 32) (hb9 : 284 ≤ bkN (B dp)) (hfit : (slM 3 B dp dt Ds dc).length ≤ 1600) : ks_P l G yX11_seal mX11_seal (d + 7) [.ref 0, .int (nI 3)] S (fun z S' => z = some (.int (nI (slM 3 B dp dt Ds dc).length)) ∧ ks_up S S' [45, 3, 4, 5, 6, 9, 8, 10, 11, 12, 13, 53, 54, 2, 1] ∧ hsO S' ∧ (∃ N, tg_ok S' N) ∧ (∃ ow, bfS S' 5 6 8000 ow) ∧ (∃ od, bfS S' 3 4 1600 od) ∧ (∃ g, kO g ∧ S'.2.2 53 = some (kB 384 g)) ∧ (∃ g, kO g ∧ S'.2.2 54 = some (kB 32 g)) ∧ bfS S' 1 2 1600 (some (slF 3 B dp dt Ds dc))) := by
  have h0j := h0
  have h0 : S.2.2 0 = some (.inr (14, [.ref 1, .ref 3, .ref 5, .ref 7, .ref 14, .ref 20, .ref 27, .ref 41, .ref 52, .ref 53, .ref 54, .ref 55, .int (nI dc), .int (nI dp), .long dt, .int rs])) := h0
  obtain ⟨hO, ⟨bf, h42, hbf⟩, hB, hn60⟩ := id hX
  obtain ⟨g1y, f2y, g3y, g4y, oy, ley, egy, bly, sty, idy, hsy, coy⟩ := hB dp (by omega)
  refine ks_of (by decide) rfl rfl (Nat.le_of_ble_eq_true rfl) ?_
  show ks_X l G mX11_seal (d + 7) 0 [(0, .ref 0), (1, .int (nI 3))] [] S _
  refine ks_iload_n dX11_seal_0 rfl rfl ?_
  refine ks_if_ltN (tgt := 9) (by decide) dX11_seal_1 (by decide) rfl ?_
  refine ks_iload_n dX11_seal_4 rfl rfl ?_
  refine ks_iconst (x := nI 5) dX11_seal_5 (by decide) rfl ?_
  refine ks_icmp_leN (tgt := 17) (by decide) (by decide) dX11_seal_6 (by decide) rfl (fun _ => ?_) (fun h => absurd h (by decide))
  refine ks_aload_n dX11_seal_17 rfl rfl ?_
  refine ks_getf (T := TX11) (kf := 7) kx_1060 rfl in_X11 cl_X11 (by decide) h0 rfl dX11_seal_18 rfl ?_
  refine ks_aload_n dX11_seal_21 rfl rfl ?_
  refine ks_getf (T := TX11) (kf := 13) kx_1066 rfl in_X11 cl_X11 (by decide) h0 rfl dX11_seal_22 rfl ?_
  refine ks_callV (n := 1) (M' := mX2_dueBits) (c_ch_dueBits (d := d + 3) hX hW hdp hTg hhei) hO cl_X2 rfl kx_1392 kx_1393 kx_1394 kx_26 kx_1395 (by decide +kernel) rfl (by decide) (Nat.le_of_ble_eq_true rfl) rfl dX11_seal_25 rfl (fun z1 T1 y1 => ?_)
  obtain ⟨rfl, w1, N1, Tg1⟩ := y1
  have a0 := w1.at h0 (by decide)
  have a0j : T1.2.2 0 = some (jdO dc dp dt rs) := a0
  have X1 := hX.up w1 (by decide)
  obtain ⟨hO1, ⟨bf1, h421, hbf1⟩, hB1, -⟩ := id X1
  have l45 : ∀ x ∈ ([45] : List Nat), x < 56 := by decide
  have oy1 := oy.up w1 (fun x hx => by have := l45 x hx; omega)
  obtain ⟨bt, hbt⟩ : ∃ b, dueB B dp = b := ⟨_, rfl⟩
  rw [hbt] at hdb ⊢
  refine ks_istore_n dX11_seal_28 (by decide) rfl ?_
  refine ks_sub [(2, _), (0, _), (1, _)] rfl ?_
  refine ks_aload_n dX11_seal_29 rfl rfl ?_
  refine ks_iload_n dX11_seal_30 rfl rfl ?_
  refine ks_aload_n dX11_seal_31 rfl rfl ?_
  refine ks_getf (T := TX11) (kf := 7) kx_1060 rfl in_X11 cl_X11 (by decide) a0 rfl dX11_seal_32 rfl ?_
  refine ks_getf (T := TX2) (kf := 0) kx_730 rfl in_X2 cl_X2 (by decide) hO1 rfl dX11_seal_35 rfl ?_
  refine ks_aload_n dX11_seal_38 rfl rfl ?_
  refine ks_getf (T := TX11) (kf := 13) kx_1066 rfl in_X11 cl_X11 (by decide) a0 rfl dX11_seal_39 rfl ?_
  refine ks_aaldN (i := dp) (b := (bkN (B dp))) (by decide) h421 rfl (by omega) (by decide) (hbf1 dp (by omega)) dX11_seal_42 rfl ?_
  refine ks_getf (T := TX0) (kf := 3) kx_944 rfl in_X0 cl_X0 (by decide) oy1.1 rfl dX11_seal_43 rfl ?_
  refine ks_iload_n dX11_seal_46 rfl rfl ?_
  refine ks_callV (n := 3) (M' := mX11_draw) (c_jd_draw3 (d := d) a0j (hD.up w1 (by decide)) hdc (w1.st hK (by unfold ks_B; decide)) (hh.up w1 (by decide)) (hw.up w1 (by decide) (by decide)) (hd.up w1 (by decide) (by decide)) (w1.at h53 (by decide)) kg0 (w1.at h54 (by decide)) kr0 (w1.at h55 (by decide)) oy1.2.2.2.2.1 oy1.2.2.2.2.2.2.2.1 (by omega)) a0 cl_X11 rfl kx_854 kx_856 kxp_6 kx_1 kx_857 (by decide +kernel) rfl (by decide) (Nat.le_of_ble_eq_true rfl) rfl dX11_seal_47 rfl (fun z2 T2 y2 => ?_)
  obtain ⟨rfl, w2, hh2, ⟨ow2, W2⟩, ⟨g53, k53, e53⟩, ⟨g54, k54, e54⟩, B2⟩ := y2
  have ehs : bytL g4y 0 32 = bytL (hsB (bkM (B dp))) 0 32 := bytL_c (fun k hk => by rw [Nat.zero_add]; exact hsy k hk)
  have eM : drC (drH 3 (bytL g4y 0 32) dt (nI bt) Ds dc ++ cntL dc) Ds dc = some (slM 3 B dp dt Ds dc) := by
    unfold drC
    rw [ehs, ← hbt]
    exact if_pos hfit
  rw [eM] at B2
  have h80 : 80 ≤ (slM 3 B dp dt Ds dc).length := by
    unfold slM
    rw [List.length_append, List.length_append, drH_len _ _ _ _ _ _ (bytL_len _ _ _)]
    omega
  unfold slF
  rw [hbt]
  obtain ⟨Mb, hMb⟩ : ∃ m, slM 3 B dp dt Ds dc = m := ⟨_, rfl⟩
  rw [hMb] at B2 h80 hfit ⊢
  obtain ⟨l3, g3, -, -, -, a3, ⟨q3, -⟩⟩ := id B2
  have b0 := w2.at a0 (by decide)
  have b0j : T2.2.2 0 = some (jdO dc dp dt rs) := b0
  have Tg2 : tg_ok T2 N1 := Tg1.up w2 (by decide) (by decide) (fun h => absurd h (by decide)) (fun h => absurd h (by decide))
  have X2 := X1.up w2 (by decide)
  have h41b : T2.2.2 41 = some (chO n best cc tk) := X2.1
  have K2 := w2.st (w1.st hK (by unfold ks_B; decide)) (by unfold ks_B; decide)
  have t2 := (hT.up w1 (by decide) (by decide)).up w2 (by decide) (by decide)
  refine ks_aload_n dX11_seal_50 rfl rfl ?_
  refine ks_getf (T := TX11) (kf := 1) kx_1054 rfl in_X11 cl_X11 (by decide) b0 rfl dX11_seal_51 rfl ?_
  refine ks_getf (T := TX1) (kf := 2) kx_66 rfl in_X1 cl_X1 (by decide) a3 rfl dX11_seal_54 rfl ?_
  refine ks_if_eqN (tgt := 68) (by decide) dX11_seal_57 (by decide) rfl (fun _ => ?_) (fun h => absurd h (by decide))
  refine ks_aload_n dX11_seal_68 rfl rfl ?_
  refine ks_iload_n dX11_seal_69 rfl rfl ?_
  refine ks_iload_n dX11_seal_70 rfl rfl ?_
  refine ks_iconst (x := nI 3) dX11_seal_71 (by decide) rfl ?_
  refine ks_icmp_eqN (tgt := 79) (by decide) (by decide) dX11_seal_72 (by decide) rfl (fun _ => ?_) (fun h => absurd h (by decide))
  refine ks_iconst (x := nI 0) dX11_seal_79 (by decide) rfl ?_
  refine ks_ti (y := ks_bo false) rfl ?_
  refine ks_callV (n := 2) (M' := mX11_findNonce) (c_jd_findNonce (d := d + 1) (wn := false) b0j h41b B2 h80 Tg2 hdb hh2 K2 e54 k54) b0 cl_X11 rfl kx_912 kx_914 kxp_10 kx_1 kx_915 (by decide +kernel) rfl (by decide) (Nat.le_of_ble_eq_true rfl) rfl dX11_seal_80 rfl (fun z3 T3 y3 => ?_)
  obtain ⟨rfl, w3, hh3, ⟨N3, Tg3⟩, ⟨g54b, k54b, e54b⟩, B3⟩ := y3
  have c0 := w3.at b0 (by decide)
  have t3 := t2.up w3 (by decide) (by decide)
  obtain ⟨l1, g1, -, -, -, a1, -⟩ := id t3
  refine ks_aload_n dX11_seal_83 rfl rfl ?_
  refine ks_getf (T := TX11) (kf := 0) kx_1053 rfl in_X11 cl_X11 (by decide) c0 rfl dX11_seal_84 rfl ?_
  refine ks_callV (n := 0) (M' := mX1_clear) (bf_clear (d := d + 6) t3) a1 cl_X1 rfl kx_842 kx_843 kx_844 kx_2 kx_845 (by decide +kernel) rfl (by decide) (Nat.le_of_ble_eq_true rfl) rfl dX11_seal_87 rfl (fun z4 T4 y4 => ?_)
  obtain ⟨rfl, w4, t4⟩ := y4
  have d0 := w4.at c0 (by decide)
  have B4 := B3.up w4 (by decide) (by decide)
  obtain ⟨l4, g4, kg4, l416, e4, a34, ⟨q4, hg4⟩⟩ := id B4
  obtain ⟨l5, g5, -, -, -, a14, -⟩ := id t4
  refine ks_aload_n dX11_seal_90 rfl rfl ?_
  refine ks_getf (T := TX11) (kf := 0) kx_1053 rfl in_X11 cl_X11 (by decide) d0 rfl dX11_seal_91 rfl ?_
  refine ks_aload_n dX11_seal_94 rfl rfl ?_
  refine ks_getf (T := TX11) (kf := 1) kx_1054 rfl in_X11 cl_X11 (by decide) d0 rfl dX11_seal_95 rfl ?_
  refine ks_getf (T := TX1) (kf := 0) kx_54 rfl in_X1 cl_X1 (by decide) a34 rfl dX11_seal_98 rfl ?_
  refine ks_iconst (x := nI 0) dX11_seal_101 (by decide) rfl ?_
  refine ks_aload_n dX11_seal_102 rfl rfl ?_
  refine ks_getf (T := TX11) (kf := 1) kx_1054 rfl in_X11 cl_X11 (by decide) d0 rfl dX11_seal_103 rfl ?_
  refine ks_getf (T := TX1) (kf := 1) kx_59 rfl in_X1 cl_X1 (by decide) a34 rfl dX11_seal_106 rfl ?_
  refine ks_callV (n := 3) (M' := mX1_addBytes) (bf_bytes (d := d + 5) (i := 0) (n := l4) t4 (by decide) e4 kg4 (by omega) (by decide)) a14 cl_X1 rfl kx_910 kx_872 kx_873 kx_2 kx_874 (by decide +kernel) rfl (by decide) (Nat.le_of_ble_eq_true rfl) rfl dX11_seal_109 rfl (fun z5 T5 y5 => ?_)
  obtain ⟨rfl, w5, t5⟩ := y5
  obtain ⟨Mf, hMf⟩ : ∃ m, sNc Mb (fnN Mb false (tg_num bt) 4096 0) = m := ⟨_, rfl⟩
  have lMf : Mf.length = Mb.length := by rw [← hMf, sNc_len]
  rw [hMf] at q4 hg4
  have eb : bytL g4 0 l4 = Mf := by
    rw [← q4]
    refine List.ext_getElem (by rw [bytL_len]) (fun k h1 h2 => ?_)
    simp only [bytL, List.getElem_map, List.getElem_range, Nat.zero_add]
    rw [hg4 k (by omega)]
    simp [List.getD, h2]
  rw [eb, bfA_ok (by rw [List.length_nil]; omega), List.nil_append] at t5
  have d05 := w5.at d0 (by decide)
  obtain ⟨l6, g6, -, -, -, a15, ⟨q6, -⟩⟩ := id t5
  refine ks_aload_n dX11_seal_112 rfl rfl ?_
  refine ks_getf (T := TX11) (kf := 0) kx_1053 rfl in_X11 cl_X11 (by decide) d05 rfl dX11_seal_113 rfl ?_
  refine ks_getf (T := TX1) (kf := 1) kx_59 rfl in_X1 cl_X1 (by decide) a15 rfl dX11_seal_116 rfl ?_
  refine ks_iret rfl dX11_seal_119 ?_
  rw [← q6, lMf, show decide ((3 : Nat) ≠ 3) = false from rfl, hMf]
  refine ⟨rfl, ((((w1.mono (by decide)).trans (w2.mono (by decide))).trans (w3.mono (by decide))).trans (w4.mono (by decide))).trans (w5.mono (by decide)), (hh3.up w4 (by decide)).up w5 (by decide), ⟨_, (Tg3.up w4 (by decide) (by decide) (fun h => absurd h (by decide)) (fun h => absurd h (by decide))).up w5 (by decide) (by decide) (fun h => absurd h (by decide)) (fun h => absurd h (by decide))⟩, ⟨_, ((W2.up w3 (by decide) (by decide)).up w4 (by decide) (by decide)).up w5 (by decide) (by decide)⟩, ⟨_, B4.up w5 (by decide) (by decide)⟩, ⟨_, k53, w5.at (w4.at (w3.at e53 (by decide)) (by decide)) (by decide)⟩, ⟨_, k54b, w5.at (w4.at e54b (by decide)) (by decide)⟩, t5⟩
set_option maxRecDepth 100000 in
set_option maxHeartbeats 800000 in
theorem c_jd_seal4 {l : Launch} {G : ks_G} {d : Nat} {S : ks_S} {dc dp : Nat} {dt : Int64} {rs : Int32} (h0 : S.2.2 0 = some (jdO dc dp dt rs)) {n best : Nat} {cc : Int32} {tk : Int64} {B : Nat → Bk} (hX : chX S n best cc tk B) {T : List Nat} {Ds : Nat → dTx} {od ow : Option (List Nat)} {gi0 gr0 : Nat → Nat} {N0 : Nat} (hT : bfS S 1 2 1600 (some T)) (hD : dfS S Ds) (hdc : dc ≤ 12) (hK : ks_stOK S) (hh : hsO S) (hw : bfS S 5 6 8000 ow) (hd : bfS S 3 4 1600 od) (h53 : S.2.2 53 = some (kB 384 gi0)) (kg0 : kO gi0) (h54 : S.2.2 54 = some (kB 32 gr0)) (kr0 : kO gr0) (h55 : S.2.2 55 = some (kB 32 (fun _ => 0))) (hTg : tg_ok S N0) (hW : chW n B) (hdp : dp < n) (hhei : ∀ i, i < n → bkH (B i) < 2 ^ 30) (hdb : dueB B dp < 2 ^ 32) (hb9 : 284 ≤ bkN (B dp)) (hfit : (slM 4 B dp dt Ds dc).length ≤ 1600) : ks_P l G yX11_seal mX11_seal (d + 7) [.ref 0, .int (nI 4)] S (fun z S' => z = some (.int (nI (slM 4 B dp dt Ds dc).length)) ∧ ks_up S S' [45, 3, 4, 5, 6, 9, 8, 10, 11, 12, 13, 53, 54, 2, 1] ∧ hsO S' ∧ (∃ N, tg_ok S' N) ∧ (∃ ow, bfS S' 5 6 8000 ow) ∧ (∃ od, bfS S' 3 4 1600 od) ∧ (∃ g, kO g ∧ S'.2.2 53 = some (kB 384 g)) ∧ (∃ g, kO g ∧ S'.2.2 54 = some (kB 32 g)) ∧ bfS S' 1 2 1600 (some (slF 4 B dp dt Ds dc))) := by
  have h0j := h0
  have h0 : S.2.2 0 = some (.inr (14, [.ref 1, .ref 3, .ref 5, .ref 7, .ref 14, .ref 20, .ref 27, .ref 41, .ref 52, .ref 53, .ref 54, .ref 55, .int (nI dc), .int (nI dp), .long dt, .int rs])) := h0
  obtain ⟨hO, ⟨bf, h42, hbf⟩, hB, hn60⟩ := id hX
  obtain ⟨g1y, f2y, g3y, g4y, oy, ley, egy, bly, sty, idy, hsy, coy⟩ := hB dp (by omega)
  refine ks_of (by decide) rfl rfl (Nat.le_of_ble_eq_true rfl) ?_
  show ks_X l G mX11_seal (d + 7) 0 [(0, .ref 0), (1, .int (nI 4))] [] S _
  refine ks_iload_n dX11_seal_0 rfl rfl ?_
  refine ks_if_ltN (tgt := 9) (by decide) dX11_seal_1 (by decide) rfl ?_
  refine ks_iload_n dX11_seal_4 rfl rfl ?_
  refine ks_iconst (x := nI 5) dX11_seal_5 (by decide) rfl ?_
  refine ks_icmp_leN (tgt := 17) (by decide) (by decide) dX11_seal_6 (by decide) rfl (fun _ => ?_) (fun h => absurd h (by decide))
  refine ks_aload_n dX11_seal_17 rfl rfl ?_
  refine ks_getf (T := TX11) (kf := 7) kx_1060 rfl in_X11 cl_X11 (by decide) h0 rfl dX11_seal_18 rfl ?_
  refine ks_aload_n dX11_seal_21 rfl rfl ?_
  refine ks_getf (T := TX11) (kf := 13) kx_1066 rfl in_X11 cl_X11 (by decide) h0 rfl dX11_seal_22 rfl ?_
  refine ks_callV (n := 1) (M' := mX2_dueBits) (c_ch_dueBits (d := d + 3) hX hW hdp hTg hhei) hO cl_X2 rfl kx_1392 kx_1393 kx_1394 kx_26 kx_1395 (by decide +kernel) rfl (by decide) (Nat.le_of_ble_eq_true rfl) rfl dX11_seal_25 rfl (fun z1 T1 y1 => ?_)
  obtain ⟨rfl, w1, N1, Tg1⟩ := y1
  have a0 := w1.at h0 (by decide)
  have a0j : T1.2.2 0 = some (jdO dc dp dt rs) := a0
  have X1 := hX.up w1 (by decide)
  obtain ⟨hO1, ⟨bf1, h421, hbf1⟩, hB1, -⟩ := id X1
  have l45 : ∀ x ∈ ([45] : List Nat), x < 56 := by decide
  have oy1 := oy.up w1 (fun x hx => by have := l45 x hx; omega)
  obtain ⟨bt, hbt⟩ : ∃ b, dueB B dp = b := ⟨_, rfl⟩
  rw [hbt] at hdb ⊢
  refine ks_istore_n dX11_seal_28 (by decide) rfl ?_
  refine ks_sub [(2, _), (0, _), (1, _)] rfl ?_
  refine ks_aload_n dX11_seal_29 rfl rfl ?_
  refine ks_iload_n dX11_seal_30 rfl rfl ?_
  refine ks_aload_n dX11_seal_31 rfl rfl ?_
  refine ks_getf (T := TX11) (kf := 7) kx_1060 rfl in_X11 cl_X11 (by decide) a0 rfl dX11_seal_32 rfl ?_
  refine ks_getf (T := TX2) (kf := 0) kx_730 rfl in_X2 cl_X2 (by decide) hO1 rfl dX11_seal_35 rfl ?_
  refine ks_aload_n dX11_seal_38 rfl rfl ?_
  refine ks_getf (T := TX11) (kf := 13) kx_1066 rfl in_X11 cl_X11 (by decide) a0 rfl dX11_seal_39 rfl ?_
  refine ks_aaldN (i := dp) (b := (bkN (B dp))) (by decide) h421 rfl (by omega) (by decide) (hbf1 dp (by omega)) dX11_seal_42 rfl ?_
  refine ks_getf (T := TX0) (kf := 3) kx_944 rfl in_X0 cl_X0 (by decide) oy1.1 rfl dX11_seal_43 rfl ?_
  refine ks_iload_n dX11_seal_46 rfl rfl ?_
  refine ks_callV (n := 3) (M' := mX11_draw) (c_jd_draw4 (d := d) a0j (hD.up w1 (by decide)) hdc (w1.st hK (by unfold ks_B; decide)) (hh.up w1 (by decide)) (hw.up w1 (by decide) (by decide)) (hd.up w1 (by decide) (by decide)) (w1.at h53 (by decide)) kg0 (w1.at h54 (by decide)) kr0 (w1.at h55 (by decide)) oy1.2.2.2.2.1 oy1.2.2.2.2.2.2.2.1 (by omega)) a0 cl_X11 rfl kx_854 kx_856 kxp_6 kx_1 kx_857 (by decide +kernel) rfl (by decide) (Nat.le_of_ble_eq_true rfl) rfl dX11_seal_47 rfl (fun z2 T2 y2 => ?_)
  obtain ⟨rfl, w2, hh2, ⟨ow2, W2⟩, ⟨g53, k53, e53⟩, ⟨g54, k54, e54⟩, B2⟩ := y2
  have ehs : bytL g4y 0 32 = bytL (hsB (bkM (B dp))) 0 32 := bytL_c (fun k hk => by rw [Nat.zero_add]; exact hsy k hk)
  have eM : drC (drH 4 (bytL g4y 0 32) dt (nI bt) Ds dc ++ cntL dc) Ds dc = some (slM 4 B dp dt Ds dc) := by
    unfold drC
    rw [ehs, ← hbt]
    exact if_pos hfit
  rw [eM] at B2
  have h80 : 80 ≤ (slM 4 B dp dt Ds dc).length := by
    unfold slM
    rw [List.length_append, List.length_append, drH_len _ _ _ _ _ _ (bytL_len _ _ _)]
    omega
  unfold slF
  rw [hbt]
  obtain ⟨Mb, hMb⟩ : ∃ m, slM 4 B dp dt Ds dc = m := ⟨_, rfl⟩
  rw [hMb] at B2 h80 hfit ⊢
  obtain ⟨l3, g3, -, -, -, a3, ⟨q3, -⟩⟩ := id B2
  have b0 := w2.at a0 (by decide)
  have b0j : T2.2.2 0 = some (jdO dc dp dt rs) := b0
  have Tg2 : tg_ok T2 N1 := Tg1.up w2 (by decide) (by decide) (fun h => absurd h (by decide)) (fun h => absurd h (by decide))
  have X2 := X1.up w2 (by decide)
  have h41b : T2.2.2 41 = some (chO n best cc tk) := X2.1
  have K2 := w2.st (w1.st hK (by unfold ks_B; decide)) (by unfold ks_B; decide)
  have t2 := (hT.up w1 (by decide) (by decide)).up w2 (by decide) (by decide)
  refine ks_aload_n dX11_seal_50 rfl rfl ?_
  refine ks_getf (T := TX11) (kf := 1) kx_1054 rfl in_X11 cl_X11 (by decide) b0 rfl dX11_seal_51 rfl ?_
  refine ks_getf (T := TX1) (kf := 2) kx_66 rfl in_X1 cl_X1 (by decide) a3 rfl dX11_seal_54 rfl ?_
  refine ks_if_eqN (tgt := 68) (by decide) dX11_seal_57 (by decide) rfl (fun _ => ?_) (fun h => absurd h (by decide))
  refine ks_aload_n dX11_seal_68 rfl rfl ?_
  refine ks_iload_n dX11_seal_69 rfl rfl ?_
  refine ks_iload_n dX11_seal_70 rfl rfl ?_
  refine ks_iconst (x := nI 3) dX11_seal_71 (by decide) rfl ?_
  refine ks_icmp_eqN (tgt := 79) (by decide) (by decide) dX11_seal_72 (by decide) rfl (fun h => absurd h (by decide)) (fun _ => ?_)
  refine ks_iconst (x := nI 1) dX11_seal_75 (by decide) rfl ?_
  refine ks_goto (tgt := 80) dX11_seal_76 (by decide) ?_
  refine ks_ti (y := ks_bo true) rfl ?_
  refine ks_callV (n := 2) (M' := mX11_findNonce) (c_jd_findNonce (d := d + 1) (wn := true) b0j h41b B2 h80 Tg2 hdb hh2 K2 e54 k54) b0 cl_X11 rfl kx_912 kx_914 kxp_10 kx_1 kx_915 (by decide +kernel) rfl (by decide) (Nat.le_of_ble_eq_true rfl) rfl dX11_seal_80 rfl (fun z3 T3 y3 => ?_)
  obtain ⟨rfl, w3, hh3, ⟨N3, Tg3⟩, ⟨g54b, k54b, e54b⟩, B3⟩ := y3
  have c0 := w3.at b0 (by decide)
  have t3 := t2.up w3 (by decide) (by decide)
  obtain ⟨l1, g1, -, -, -, a1, -⟩ := id t3
  refine ks_aload_n dX11_seal_83 rfl rfl ?_
  refine ks_getf (T := TX11) (kf := 0) kx_1053 rfl in_X11 cl_X11 (by decide) c0 rfl dX11_seal_84 rfl ?_
  refine ks_callV (n := 0) (M' := mX1_clear) (bf_clear (d := d + 6) t3) a1 cl_X1 rfl kx_842 kx_843 kx_844 kx_2 kx_845 (by decide +kernel) rfl (by decide) (Nat.le_of_ble_eq_true rfl) rfl dX11_seal_87 rfl (fun z4 T4 y4 => ?_)
  obtain ⟨rfl, w4, t4⟩ := y4
  have d0 := w4.at c0 (by decide)
  have B4 := B3.up w4 (by decide) (by decide)
  obtain ⟨l4, g4, kg4, l416, e4, a34, ⟨q4, hg4⟩⟩ := id B4
  obtain ⟨l5, g5, -, -, -, a14, -⟩ := id t4
  refine ks_aload_n dX11_seal_90 rfl rfl ?_
  refine ks_getf (T := TX11) (kf := 0) kx_1053 rfl in_X11 cl_X11 (by decide) d0 rfl dX11_seal_91 rfl ?_
  refine ks_aload_n dX11_seal_94 rfl rfl ?_
  refine ks_getf (T := TX11) (kf := 1) kx_1054 rfl in_X11 cl_X11 (by decide) d0 rfl dX11_seal_95 rfl ?_
  refine ks_getf (T := TX1) (kf := 0) kx_54 rfl in_X1 cl_X1 (by decide) a34 rfl dX11_seal_98 rfl ?_
  refine ks_iconst (x := nI 0) dX11_seal_101 (by decide) rfl ?_
  refine ks_aload_n dX11_seal_102 rfl rfl ?_
  refine ks_getf (T := TX11) (kf := 1) kx_1054 rfl in_X11 cl_X11 (by decide) d0 rfl dX11_seal_103 rfl ?_
  refine ks_getf (T := TX1) (kf := 1) kx_59 rfl in_X1 cl_X1 (by decide) a34 rfl dX11_seal_106 rfl ?_
  refine ks_callV (n := 3) (M' := mX1_addBytes) (bf_bytes (d := d + 5) (i := 0) (n := l4) t4 (by decide) e4 kg4 (by omega) (by decide)) a14 cl_X1 rfl kx_910 kx_872 kx_873 kx_2 kx_874 (by decide +kernel) rfl (by decide) (Nat.le_of_ble_eq_true rfl) rfl dX11_seal_109 rfl (fun z5 T5 y5 => ?_)
  obtain ⟨rfl, w5, t5⟩ := y5
  obtain ⟨Mf, hMf⟩ : ∃ m, sNc Mb (fnN Mb true (tg_num bt) 4096 0) = m := ⟨_, rfl⟩
  have lMf : Mf.length = Mb.length := by rw [← hMf, sNc_len]
  rw [hMf] at q4 hg4
  have eb : bytL g4 0 l4 = Mf := by
    rw [← q4]
    refine List.ext_getElem (by rw [bytL_len]) (fun k h1 h2 => ?_)
    simp only [bytL, List.getElem_map, List.getElem_range, Nat.zero_add]
    rw [hg4 k (by omega)]
    simp [List.getD, h2]
  rw [eb, bfA_ok (by rw [List.length_nil]; omega), List.nil_append] at t5
  have d05 := w5.at d0 (by decide)
  obtain ⟨l6, g6, -, -, -, a15, ⟨q6, -⟩⟩ := id t5
  refine ks_aload_n dX11_seal_112 rfl rfl ?_
  refine ks_getf (T := TX11) (kf := 0) kx_1053 rfl in_X11 cl_X11 (by decide) d05 rfl dX11_seal_113 rfl ?_
  refine ks_getf (T := TX1) (kf := 1) kx_59 rfl in_X1 cl_X1 (by decide) a15 rfl dX11_seal_116 rfl ?_
  refine ks_iret rfl dX11_seal_119 ?_
  rw [← q6, lMf, show decide ((4 : Nat) ≠ 3) = true from rfl, hMf]
  refine ⟨rfl, ((((w1.mono (by decide)).trans (w2.mono (by decide))).trans (w3.mono (by decide))).trans (w4.mono (by decide))).trans (w5.mono (by decide)), (hh3.up w4 (by decide)).up w5 (by decide), ⟨_, (Tg3.up w4 (by decide) (by decide) (fun h => absurd h (by decide)) (fun h => absurd h (by decide))).up w5 (by decide) (by decide) (fun h => absurd h (by decide)) (fun h => absurd h (by decide))⟩, ⟨_, ((W2.up w3 (by decide) (by decide)).up w4 (by decide) (by decide)).up w5 (by decide) (by decide)⟩, ⟨_, B4.up w5 (by decide) (by decide)⟩, ⟨_, k53, w5.at (w4.at (w3.at e53 (by decide)) (by decide)) (by decide)⟩, ⟨_, k54b, w5.at (w4.at e54b (by decide)) (by decide)⟩, t5⟩
set_option maxRecDepth 100000 in
set_option maxHeartbeats 800000 in
theorem c_jd_seal5 {l : Launch} {G : ks_G} {d : Nat} {S : ks_S} {dc dp : Nat} {dt : Int64} {rs : Int32} (h0 : S.2.2 0 = some (jdO dc dp dt rs)) {n best : Nat} {cc : Int32} {tk : Int64} {B : Nat → Bk} (hX : chX S n best cc tk B) {T : List Nat} {Ds : Nat → dTx} {od ow : Option (List Nat)} {gi0 gr0 : Nat → Nat} {N0 : Nat} (hT : bfS S 1 2 1600 (some T)) (hD : dfS S Ds) (hdc : dc ≤ 12) (hK : ks_stOK S) (hh : hsO S) (hw : bfS S 5 6 8000 ow) (hd : bfS S 3 4 1600 od) (h53 : S.2.2 53 = some (kB 384 gi0)) (kg0 : kO gi0) (h54 : S.2.2 54 = some (kB 32 gr0)) (kr0 : kO gr0) (h55 : S.2.2 55 = some (kB 32 (fun _ => 0))) (hTg : tg_ok S N0) (hW : chW n B) (hdp : dp < n) (hhei : ∀ i, i < n → bkH (B i) < 2 ^ 30) (hdb : dueB B dp < 2 ^ 32) (hb9 : 284 ≤ bkN (B dp)) (hfit : (slM 5 B dp dt Ds dc).length ≤ 1600) : ks_P l G yX11_seal mX11_seal (d + 7) [.ref 0, .int (nI 5)] S (fun z S' => z = some (.int (nI (slM 5 B dp dt Ds dc).length)) ∧ ks_up S S' [45, 3, 4, 5, 6, 9, 8, 10, 11, 12, 13, 53, 54, 2, 1] ∧ hsO S' ∧ (∃ N, tg_ok S' N) ∧ (∃ ow, bfS S' 5 6 8000 ow) ∧ (∃ od, bfS S' 3 4 1600 od) ∧ (∃ g, kO g ∧ S'.2.2 53 = some (kB 384 g)) ∧ (∃ g, kO g ∧ S'.2.2 54 = some (kB 32 g)) ∧ bfS S' 1 2 1600 (some (slF 5 B dp dt Ds dc))) := by
  have h0j := h0
  have h0 : S.2.2 0 = some (.inr (14, [.ref 1, .ref 3, .ref 5, .ref 7, .ref 14, .ref 20, .ref 27, .ref 41, .ref 52, .ref 53, .ref 54, .ref 55, .int (nI dc), .int (nI dp), .long dt, .int rs])) := h0
  obtain ⟨hO, ⟨bf, h42, hbf⟩, hB, hn60⟩ := id hX
  obtain ⟨g1y, f2y, g3y, g4y, oy, ley, egy, bly, sty, idy, hsy, coy⟩ := hB dp (by omega)
  refine ks_of (by decide) rfl rfl (Nat.le_of_ble_eq_true rfl) ?_
  show ks_X l G mX11_seal (d + 7) 0 [(0, .ref 0), (1, .int (nI 5))] [] S _
  refine ks_iload_n dX11_seal_0 rfl rfl ?_
  refine ks_if_ltN (tgt := 9) (by decide) dX11_seal_1 (by decide) rfl ?_
  refine ks_iload_n dX11_seal_4 rfl rfl ?_
  refine ks_iconst (x := nI 5) dX11_seal_5 (by decide) rfl ?_
  refine ks_icmp_leN (tgt := 17) (by decide) (by decide) dX11_seal_6 (by decide) rfl (fun _ => ?_) (fun h => absurd h (by decide))
  refine ks_aload_n dX11_seal_17 rfl rfl ?_
  refine ks_getf (T := TX11) (kf := 7) kx_1060 rfl in_X11 cl_X11 (by decide) h0 rfl dX11_seal_18 rfl ?_
  refine ks_aload_n dX11_seal_21 rfl rfl ?_
  refine ks_getf (T := TX11) (kf := 13) kx_1066 rfl in_X11 cl_X11 (by decide) h0 rfl dX11_seal_22 rfl ?_
  refine ks_callV (n := 1) (M' := mX2_dueBits) (c_ch_dueBits (d := d + 3) hX hW hdp hTg hhei) hO cl_X2 rfl kx_1392 kx_1393 kx_1394 kx_26 kx_1395 (by decide +kernel) rfl (by decide) (Nat.le_of_ble_eq_true rfl) rfl dX11_seal_25 rfl (fun z1 T1 y1 => ?_)
  obtain ⟨rfl, w1, N1, Tg1⟩ := y1
  have a0 := w1.at h0 (by decide)
  have a0j : T1.2.2 0 = some (jdO dc dp dt rs) := a0
  have X1 := hX.up w1 (by decide)
  obtain ⟨hO1, ⟨bf1, h421, hbf1⟩, hB1, -⟩ := id X1
  have l45 : ∀ x ∈ ([45] : List Nat), x < 56 := by decide
  have oy1 := oy.up w1 (fun x hx => by have := l45 x hx; omega)
  obtain ⟨bt, hbt⟩ : ∃ b, dueB B dp = b := ⟨_, rfl⟩
  rw [hbt] at hdb ⊢
  refine ks_istore_n dX11_seal_28 (by decide) rfl ?_
  refine ks_sub [(2, _), (0, _), (1, _)] rfl ?_
  refine ks_aload_n dX11_seal_29 rfl rfl ?_
  refine ks_iload_n dX11_seal_30 rfl rfl ?_
  refine ks_aload_n dX11_seal_31 rfl rfl ?_
  refine ks_getf (T := TX11) (kf := 7) kx_1060 rfl in_X11 cl_X11 (by decide) a0 rfl dX11_seal_32 rfl ?_
  refine ks_getf (T := TX2) (kf := 0) kx_730 rfl in_X2 cl_X2 (by decide) hO1 rfl dX11_seal_35 rfl ?_
  refine ks_aload_n dX11_seal_38 rfl rfl ?_
  refine ks_getf (T := TX11) (kf := 13) kx_1066 rfl in_X11 cl_X11 (by decide) a0 rfl dX11_seal_39 rfl ?_
  refine ks_aaldN (i := dp) (b := (bkN (B dp))) (by decide) h421 rfl (by omega) (by decide) (hbf1 dp (by omega)) dX11_seal_42 rfl ?_
  refine ks_getf (T := TX0) (kf := 3) kx_944 rfl in_X0 cl_X0 (by decide) oy1.1 rfl dX11_seal_43 rfl ?_
  refine ks_iload_n dX11_seal_46 rfl rfl ?_
  refine ks_callV (n := 3) (M' := mX11_draw) (c_jd_draw5 (d := d) a0j (hD.up w1 (by decide)) hdc (w1.st hK (by unfold ks_B; decide)) (hh.up w1 (by decide)) (hw.up w1 (by decide) (by decide)) (hd.up w1 (by decide) (by decide)) (w1.at h53 (by decide)) kg0 (w1.at h54 (by decide)) kr0 (w1.at h55 (by decide)) oy1.2.2.2.2.1 oy1.2.2.2.2.2.2.2.1 (by omega)) a0 cl_X11 rfl kx_854 kx_856 kxp_6 kx_1 kx_857 (by decide +kernel) rfl (by decide) (Nat.le_of_ble_eq_true rfl) rfl dX11_seal_47 rfl (fun z2 T2 y2 => ?_)
  obtain ⟨rfl, w2, hh2, ⟨ow2, W2⟩, ⟨g53, k53, e53⟩, ⟨g54, k54, e54⟩, B2⟩ := y2
  have ehs : bytL g4y 0 32 = bytL (hsB (bkM (B dp))) 0 32 := bytL_c (fun k hk => by rw [Nat.zero_add]; exact hsy k hk)
  have eM : drC (drH 5 (bytL g4y 0 32) dt (nI bt) Ds dc ++ cntL dc) Ds dc = some (slM 5 B dp dt Ds dc) := by
    unfold drC
    rw [ehs, ← hbt]
    exact if_pos hfit
  rw [eM] at B2
  have h80 : 80 ≤ (slM 5 B dp dt Ds dc).length := by
    unfold slM
    rw [List.length_append, List.length_append, drH_len _ _ _ _ _ _ (bytL_len _ _ _)]
    omega
  unfold slF
  rw [hbt]
  obtain ⟨Mb, hMb⟩ : ∃ m, slM 5 B dp dt Ds dc = m := ⟨_, rfl⟩
  rw [hMb] at B2 h80 hfit ⊢
  obtain ⟨l3, g3, -, -, -, a3, ⟨q3, -⟩⟩ := id B2
  have b0 := w2.at a0 (by decide)
  have b0j : T2.2.2 0 = some (jdO dc dp dt rs) := b0
  have Tg2 : tg_ok T2 N1 := Tg1.up w2 (by decide) (by decide) (fun h => absurd h (by decide)) (fun h => absurd h (by decide))
  have X2 := X1.up w2 (by decide)
  have h41b : T2.2.2 41 = some (chO n best cc tk) := X2.1
  have K2 := w2.st (w1.st hK (by unfold ks_B; decide)) (by unfold ks_B; decide)
  have t2 := (hT.up w1 (by decide) (by decide)).up w2 (by decide) (by decide)
  refine ks_aload_n dX11_seal_50 rfl rfl ?_
  refine ks_getf (T := TX11) (kf := 1) kx_1054 rfl in_X11 cl_X11 (by decide) b0 rfl dX11_seal_51 rfl ?_
  refine ks_getf (T := TX1) (kf := 2) kx_66 rfl in_X1 cl_X1 (by decide) a3 rfl dX11_seal_54 rfl ?_
  refine ks_if_eqN (tgt := 68) (by decide) dX11_seal_57 (by decide) rfl (fun _ => ?_) (fun h => absurd h (by decide))
  refine ks_aload_n dX11_seal_68 rfl rfl ?_
  refine ks_iload_n dX11_seal_69 rfl rfl ?_
  refine ks_iload_n dX11_seal_70 rfl rfl ?_
  refine ks_iconst (x := nI 3) dX11_seal_71 (by decide) rfl ?_
  refine ks_icmp_eqN (tgt := 79) (by decide) (by decide) dX11_seal_72 (by decide) rfl (fun h => absurd h (by decide)) (fun _ => ?_)
  refine ks_iconst (x := nI 1) dX11_seal_75 (by decide) rfl ?_
  refine ks_goto (tgt := 80) dX11_seal_76 (by decide) ?_
  refine ks_ti (y := ks_bo true) rfl ?_
  refine ks_callV (n := 2) (M' := mX11_findNonce) (c_jd_findNonce (d := d + 1) (wn := true) b0j h41b B2 h80 Tg2 hdb hh2 K2 e54 k54) b0 cl_X11 rfl kx_912 kx_914 kxp_10 kx_1 kx_915 (by decide +kernel) rfl (by decide) (Nat.le_of_ble_eq_true rfl) rfl dX11_seal_80 rfl (fun z3 T3 y3 => ?_)
  obtain ⟨rfl, w3, hh3, ⟨N3, Tg3⟩, ⟨g54b, k54b, e54b⟩, B3⟩ := y3
  have c0 := w3.at b0 (by decide)
  have t3 := t2.up w3 (by decide) (by decide)
  obtain ⟨l1, g1, -, -, -, a1, -⟩ := id t3
  refine ks_aload_n dX11_seal_83 rfl rfl ?_
  refine ks_getf (T := TX11) (kf := 0) kx_1053 rfl in_X11 cl_X11 (by decide) c0 rfl dX11_seal_84 rfl ?_
  refine ks_callV (n := 0) (M' := mX1_clear) (bf_clear (d := d + 6) t3) a1 cl_X1 rfl kx_842 kx_843 kx_844 kx_2 kx_845 (by decide +kernel) rfl (by decide) (Nat.le_of_ble_eq_true rfl) rfl dX11_seal_87 rfl (fun z4 T4 y4 => ?_)
  obtain ⟨rfl, w4, t4⟩ := y4
  have d0 := w4.at c0 (by decide)
  have B4 := B3.up w4 (by decide) (by decide)
  obtain ⟨l4, g4, kg4, l416, e4, a34, ⟨q4, hg4⟩⟩ := id B4
  obtain ⟨l5, g5, -, -, -, a14, -⟩ := id t4
  refine ks_aload_n dX11_seal_90 rfl rfl ?_
  refine ks_getf (T := TX11) (kf := 0) kx_1053 rfl in_X11 cl_X11 (by decide) d0 rfl dX11_seal_91 rfl ?_
  refine ks_aload_n dX11_seal_94 rfl rfl ?_
  refine ks_getf (T := TX11) (kf := 1) kx_1054 rfl in_X11 cl_X11 (by decide) d0 rfl dX11_seal_95 rfl ?_
  refine ks_getf (T := TX1) (kf := 0) kx_54 rfl in_X1 cl_X1 (by decide) a34 rfl dX11_seal_98 rfl ?_
  refine ks_iconst (x := nI 0) dX11_seal_101 (by decide) rfl ?_
  refine ks_aload_n dX11_seal_102 rfl rfl ?_
  refine ks_getf (T := TX11) (kf := 1) kx_1054 rfl in_X11 cl_X11 (by decide) d0 rfl dX11_seal_103 rfl ?_
  refine ks_getf (T := TX1) (kf := 1) kx_59 rfl in_X1 cl_X1 (by decide) a34 rfl dX11_seal_106 rfl ?_
  refine ks_callV (n := 3) (M' := mX1_addBytes) (bf_bytes (d := d + 5) (i := 0) (n := l4) t4 (by decide) e4 kg4 (by omega) (by decide)) a14 cl_X1 rfl kx_910 kx_872 kx_873 kx_2 kx_874 (by decide +kernel) rfl (by decide) (Nat.le_of_ble_eq_true rfl) rfl dX11_seal_109 rfl (fun z5 T5 y5 => ?_)
  obtain ⟨rfl, w5, t5⟩ := y5
  obtain ⟨Mf, hMf⟩ : ∃ m, sNc Mb (fnN Mb true (tg_num bt) 4096 0) = m := ⟨_, rfl⟩
  have lMf : Mf.length = Mb.length := by rw [← hMf, sNc_len]
  rw [hMf] at q4 hg4
  have eb : bytL g4 0 l4 = Mf := by
    rw [← q4]
    refine List.ext_getElem (by rw [bytL_len]) (fun k h1 h2 => ?_)
    simp only [bytL, List.getElem_map, List.getElem_range, Nat.zero_add]
    rw [hg4 k (by omega)]
    simp [List.getD, h2]
  rw [eb, bfA_ok (by rw [List.length_nil]; omega), List.nil_append] at t5
  have d05 := w5.at d0 (by decide)
  obtain ⟨l6, g6, -, -, -, a15, ⟨q6, -⟩⟩ := id t5
  refine ks_aload_n dX11_seal_112 rfl rfl ?_
  refine ks_getf (T := TX11) (kf := 0) kx_1053 rfl in_X11 cl_X11 (by decide) d05 rfl dX11_seal_113 rfl ?_
  refine ks_getf (T := TX1) (kf := 1) kx_59 rfl in_X1 cl_X1 (by decide) a15 rfl dX11_seal_116 rfl ?_
  refine ks_iret rfl dX11_seal_119 ?_
  rw [← q6, lMf, show decide ((5 : Nat) ≠ 3) = true from rfl, hMf]
  refine ⟨rfl, ((((w1.mono (by decide)).trans (w2.mono (by decide))).trans (w3.mono (by decide))).trans (w4.mono (by decide))).trans (w5.mono (by decide)), (hh3.up w4 (by decide)).up w5 (by decide), ⟨_, (Tg3.up w4 (by decide) (by decide) (fun h => absurd h (by decide)) (fun h => absurd h (by decide))).up w5 (by decide) (by decide) (fun h => absurd h (by decide)) (fun h => absurd h (by decide))⟩, ⟨_, ((W2.up w3 (by decide) (by decide)).up w4 (by decide) (by decide)).up w5 (by decide) (by decide)⟩, ⟨_, B4.up w5 (by decide) (by decide)⟩, ⟨_, k53, w5.at (w4.at (w3.at e53 (by decide)) (by decide)) (by decide)⟩, ⟨_, k54b, w5.at (w4.at e54b (by decide)) (by decide)⟩, t5⟩
