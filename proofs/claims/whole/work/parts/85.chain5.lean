/-! CHAIN: due bits, header, climb -/
theorem btB_lt {S : ks_S} {b : Bk} (h : bkK S b) : btB (bkM b) < 2 ^ 32 ∧ tmB (bkM b) < 2 ^ 32 := by
  obtain ⟨g1, f2, g3, g4, h1, h2, h3, h4, h5⟩ := h
  have b9 := blk_b h4
  unfold btB tmB
  rw [← bk_num (i := 72) (n := 4) h3 (by omega), ← bk_num (i := 68) (n := 4) h3 (by omega)]
  exact ⟨ks_num_lt h1.2.2.2.2.2.1 4 72, ks_num_lt h1.2.2.2.2.2.1 4 68⟩
theorem upN_lt {n : Nat} {B : Nat → Bk} (hW : chW n B) : ∀ {c b : Nat}, b < n → upN B c b < n
  | 0, b, h => h
  | c + 1, b, h => by
    unfold upN
    split
    · exact h
    · next h0 =>
      refine upN_lt hW ?_
      by_cases b0 : b = 0
      · subst b0; exact absurd hW.1 h0
      · have := hW.2 b (by omega) h; omega
theorem chW.par {n : Nat} {B : Nat → Bk} (hW : chW n B) {b : Nat} (hb : b < n) : bkP (B b) ≤ b := by
  by_cases b0 : b = 0
  · subst b0; rw [hW.1]; exact Nat.le_refl 0
  · exact (hW.2 b (by omega) hb).2
set_option maxRecDepth 100000 in
set_option maxHeartbeats 800000 in
theorem c_ch_dueBits {l : Launch} {G : ks_G} {d : Nat} {S : ks_S} {n best : Nat} {cc : Int32} {tk : Int64} {B : Nat → Bk} (hX : chX S n best cc tk B) {x N : Nat} (hW : chW n B) (hx : x < n) (hT : tg_ok S N) (hhei : ∀ i, i < n → bkH (B i) < 2 ^ 30) : ks_P l G yX2_dueBits mX2_dueBits (d + 3) [.ref 41, .int (nI x)] S (fun z S' => z = some (.int (nI (dueB B x))) ∧ ks_up S S' [45] ∧ ∃ N2, tg_ok S' N2) := by
  obtain ⟨hO, ⟨bf, h42, hbf⟩, hB, hn60⟩ := id hX
  have hbt := btB_lt (hB x hx)
  obtain ⟨ux, hux⟩ : ∃ v, upN B 7 x = v := ⟨_, rfl⟩
  have hul : ux < n := by rw [← hux]; exact upN_lt hW hx
  have hbu := btB_lt (hB ux hul)
  obtain ⟨g1x, f2x, g3x, g4x, ox, lex, egx, blx, stx, idx, hsx, cox⟩ := hB x (by omega)
  have b9 := blk_b blx
  have eb := bk_num (i := 72) (n := 4) egx (by omega)
  have et := bk_num (i := 68) (n := 4) egx (by omega)
  have eD : dueB B x = if (bkH (B x) + 1) % 8 = 0 then tg_bits (tg_str (tg_num (btB (bkM (B x)))) (lN (tmB (bkM (B x))) - lN (tmB (bkM (B ux))))) else btB (bkM (B x)) := by unfold dueB; rw [hux]
  rw [eD]
  have hH : bkH (B x) < 2 ^ 30 := hhei x hx
  refine ks_of (by decide) rfl rfl (Nat.le_of_ble_eq_true rfl) ?_
  show ks_X l G mX2_dueBits (d + 3) 0 [(0, .ref 41), (1, .int (nI x))] [] S _
  refine ks_aload_n dX2_dueBits_0 rfl rfl ?_
  refine ks_getf (T := TX2) (kf := 0) kx_729 rfl in_X2 cl_X2 (by decide) hO rfl dX2_dueBits_1 rfl ?_
  refine ks_iload_n dX2_dueBits_4 rfl rfl ?_
  refine ks_aaldN (i := x) (b := (bkN (B x))) (by decide) h42 rfl (by omega) (by decide) (hbf x (by omega)) dX2_dueBits_5 rfl ?_
  refine ks_astore_n dX2_dueBits_6 (by decide) rfl ?_
  refine ks_sub [(2, _), (0, _), (1, _)] rfl ?_
  refine ks_aload_n dX2_dueBits_7 rfl rfl ?_
  refine ks_getf (T := TX0) (kf := 7) kx_954 rfl in_X0 cl_X0 (by decide) ox.1 rfl dX2_dueBits_8 rfl ?_
  refine ks_iconst (x := nI 1) dX2_dueBits_11 (by decide) rfl ?_
  refine ks_addN dX2_dueBits_12 rfl ?_
  refine ks_bipush (x := nI 8) dX2_dueBits_13 (by decide) rfl ?_
  refine ks_remN (by omega) (by decide) (by decide) dX2_dueBits_15 rfl ?_
  refine ks_if_eqN (tgt := 24) (by omega) dX2_dueBits_16 (by decide) rfl (fun h1 => ?_) (fun h1 => ?_)
  · rw [if_pos h1]
    have rest : ks_X l G mX2_dueBits (d + 3) 59 [(0, .ref 41), (1, .int (nI x)), (2, .ref (bkN (B x))), (3, .ref (bkN (B ux)))] [] S (fun z S' => z = some (.int (nI (tg_bits (tg_str (tg_num (btB (bkM (B x)))) (lN (tmB (bkM (B x))) - lN (tmB (bkM (B ux)))))))) ∧ ks_up S S' [45] ∧ ∃ N2, tg_ok S' N2) := by
      obtain ⟨g1u, f2u, g3u, g4u, ou, leu, egu, blu, stu, idu, hsu, cou⟩ := hB ux (by omega)
      have b8 := blk_b blu
      have etu := bk_num (i := 68) (n := 4) egu (by omega)
      refine ks_aload_n dX2_dueBits_59 rfl rfl ?_
      refine ks_getf (T := TX2) (kf := 2) kx_733 rfl in_X2 cl_X2 (by decide) hO rfl dX2_dueBits_60 rfl ?_
      refine ks_aload_n dX2_dueBits_63 rfl rfl ?_
      refine ks_callV (n := 0) (M' := mX0_bits) (c_bk_bits (d := d + 1) ox) ox.1 cl_X0 rfl kx_1005 kx_1006 kx_1007 kx_29 kx_1008 (by decide +kernel) rfl (by decide) (Nat.le_of_ble_eq_true rfl) rfl dX2_dueBits_64 rfl (fun z1 T1 y1 => ?_)
      obtain ⟨rfl, hT1⟩ := y1
      obtain rfl := hT1.symm
      rw [eb, show ks_num (mg (bkM (B x))) 72 4 = btB (bkM (B x)) from rfl]
      refine ks_callV (n := 1) (M' := mX9_take) (c_take (d := d + 1) (b := btB (bkM (B x))) hT hbt.1) hT.1 cl_X9 rfl kx_1010 kx_917 kx_918 kx_27 kx_919 (by decide +kernel) rfl (by decide) (Nat.le_of_ble_eq_true rfl) rfl dX2_dueBits_67 rfl (fun z2 T2 y2 => ?_)
      obtain ⟨rfl, u2, G2⟩ := y2
      have ox2 := ox.up u2 (by intro q hq; rw [List.mem_singleton] at hq; have := ox.2.2.2.2.2.2.2.2.2; have := ou.2.2.2.2.2.2.2.2.2; omega)
      have ou2 := ou.up u2 (by intro q hq; rw [List.mem_singleton] at hq; have := ox.2.2.2.2.2.2.2.2.2; have := ou.2.2.2.2.2.2.2.2.2; omega)
      have O2 := u2.at hO (by decide)
      refine ks_pop dX2_dueBits_70 rfl rfl ?_
      refine ks_aload_n dX2_dueBits_71 rfl rfl ?_
      refine ks_getf (T := TX2) (kf := 2) kx_733 rfl in_X2 cl_X2 (by decide) O2 rfl dX2_dueBits_72 rfl ?_
      refine ks_aload_n dX2_dueBits_75 rfl rfl ?_
      refine ks_callV (n := 0) (M' := mX0_time) (c_bk_time (d := d + 1) ox2) ox2.1 cl_X0 rfl kx_1396 kx_1397 kx_1398 kx_29 kx_1399 (by decide +kernel) rfl (by decide) (Nat.le_of_ble_eq_true rfl) rfl dX2_dueBits_76 rfl (fun z3 T3 y3 => ?_)
      obtain ⟨rfl, hT3⟩ := y3
      obtain rfl := hT3.symm
      rw [et, show ks_num (mg (bkM (B x))) 68 4 = tmB (bkM (B x)) from rfl]
      refine ks_aload_n dX2_dueBits_79 rfl rfl ?_
      refine ks_callV (n := 0) (M' := mX0_time) (c_bk_time (d := d + 1) ou2) ou2.1 cl_X0 rfl kx_1396 kx_1397 kx_1398 kx_29 kx_1399 (by decide +kernel) rfl (by decide) (Nat.le_of_ble_eq_true rfl) rfl dX2_dueBits_80 rfl (fun z4 T4 y4 => ?_)
      obtain ⟨rfl, hT4⟩ := y4
      obtain rfl := hT4.symm
      rw [etu, show ks_num (mg (bkM (B ux))) 68 4 = tmB (bkM (B ux)) from rfl]
      refine ks_lsub dX2_dueBits_83 rfl ?_
      refine ks_callV (n := 1) (M' := mX9_stretch) (c_stretch (d := d) (sp := lN (tmB (bkM (B x))) - lN (tmB (bkM (B ux)))) G2 (tg_num_lt _)) G2.1 cl_X9 rfl kx_1400 kx_1401 kx_1402 kx_27 kx_1403 (by decide +kernel) rfl (by decide) (Nat.le_of_ble_eq_true rfl) rfl dX2_dueBits_84 rfl (fun z5 T5 y5 => ?_)
      obtain ⟨rfl, u5, G5⟩ := y5
      have O5 := u5.at O2 (by decide)
      refine ks_aload_n dX2_dueBits_87 rfl rfl ?_
      refine ks_getf (T := TX2) (kf := 2) kx_733 rfl in_X2 cl_X2 (by decide) O5 rfl dX2_dueBits_88 rfl ?_
      refine ks_callV (n := 0) (M' := mX9_asBits) (c_asBits (d := d + 2) G5) G5.1 cl_X9 rfl kx_1415 kx_1416 kx_1417 kx_27 kx_1418 (by decide +kernel) rfl (by decide) (Nat.le_of_ble_eq_true rfl) rfl dX2_dueBits_91 rfl (fun z6 T6 y6 => ?_)
      obtain ⟨rfl, hT6⟩ := y6
      obtain rfl := hT6.symm
      refine ks_iret rfl dX2_dueBits_94 ?_
      exact ⟨rfl, u2.trans u5, _, G5⟩
    have loop : ∀ c i b, i + c = 8 → b < n → upN B c b = ux → ks_X l G mX2_dueBits (d + 3) 29 [(0, .ref 41), (1, .int (nI x)), (2, .ref (bkN (B x))), (3, .ref (bkN (B b))), (4, .int (nI i))] [] S (fun z S' => z = some (.int (nI (tg_bits (tg_str (tg_num (btB (bkM (B x)))) (lN (tmB (bkM (B x))) - lN (tmB (bkM (B ux)))))))) ∧ ks_up S S' [45] ∧ ∃ N2, tg_ok S' N2) := by
      intro c
      induction c with
      | zero =>
        intro i b hi hb he
        have hp := hW.par hb
        obtain ⟨g1b, f2b, g3b, g4b, ob, leb, egb, blb, stb, idb, hsb, cob⟩ := hB b (by omega)
        refine ks_iload dX2_dueBits_29 rfl rfl ?_
        refine ks_bipush (x := nI 8) dX2_dueBits_31 (by decide) rfl ?_
        refine ks_icmp_geN (tgt := 59) (by omega) (by decide) dX2_dueBits_33 (by decide) rfl (fun h2 => ?_) (fun h2 => ?_)
        · refine ks_sub [(0, _), (1, _), (2, _), (3, _)] rfl ?_
          have e9 : b = ux := by rw [← he]; rfl
          rw [e9]
          exact ks_sub [(0, _), (1, _), (2, _), (3, _)] rfl rest
        · omega
      | succ c ih =>
        intro i b hi hb he
        have hp := hW.par hb
        obtain ⟨g1b, f2b, g3b, g4b, ob, leb, egb, blb, stb, idb, hsb, cob⟩ := hB b (by omega)
        refine ks_iload dX2_dueBits_29 rfl rfl ?_
        refine ks_bipush (x := nI 8) dX2_dueBits_31 (by decide) rfl ?_
        refine ks_icmp_geN (tgt := 59) (by omega) (by decide) dX2_dueBits_33 (by decide) rfl (fun h2 => ?_) (fun h2 => ?_)
        · omega
        · refine ks_aload_n dX2_dueBits_36 rfl rfl ?_
          refine ks_getf (T := TX0) (kf := 6) kx_952 rfl in_X0 cl_X0 (by decide) ob.1 rfl dX2_dueBits_37 rfl ?_
          refine ks_if_ltD (tgt := 59) (by omega) dX2_dueBits_40 (by decide) rfl (fun h3 => ?_) (fun h3 => ?_)
          · refine ks_sub [(0, _), (1, _), (2, _), (3, _)] rfl ?_
            have e9 : b = ux := by rw [← he]; rw [upN, if_pos h3]
            rw [e9]
            exact ks_sub [(0, _), (1, _), (2, _), (3, _)] rfl rest
          · rw [upN, if_neg h3] at he
            refine ks_aload_n dX2_dueBits_43 rfl rfl ?_
            refine ks_getf (T := TX2) (kf := 0) kx_729 rfl in_X2 cl_X2 (by decide) hO rfl dX2_dueBits_44 rfl ?_
            refine ks_aload_n dX2_dueBits_47 rfl rfl ?_
            refine ks_getf (T := TX0) (kf := 6) kx_952 rfl in_X0 cl_X0 (by decide) ob.1 rfl dX2_dueBits_48 rfl ?_
            rw [nI_D (by omega : 0 < bkP (B b))]
            refine ks_aaldN (i := bkP (B b) - 1) (b := (bkN (B (bkP (B b) - 1)))) (by decide) h42 rfl (by omega) (by decide) (hbf (bkP (B b) - 1) (by omega)) dX2_dueBits_51 rfl ?_
            refine ks_astore_n dX2_dueBits_52 (by decide) rfl ?_
            refine ks_sub [(3, _), (0, _), (1, _), (2, _), (4, _)] rfl ?_
            refine ks_incN (c := 1) (e := i + 1) dX2_dueBits_53 rfl (by decide) rfl (by decide) rfl ?_
            refine ks_sub [(4, _), (0, _), (1, _), (2, _), (3, _)] rfl ?_
            refine ks_goto (tgt := 29) dX2_dueBits_56 (by decide) ?_
            exact ks_sub [(0, _), (1, _), (2, _), (3, _), (4, _)] rfl (ih (i + 1) (bkP (B b) - 1) (by omega) (by omega) he)
    refine ks_aload_n dX2_dueBits_24 rfl rfl ?_
    refine ks_astore_n dX2_dueBits_25 (by decide) rfl ?_
    refine ks_sub [(3, _), (0, _), (1, _), (2, _)] rfl ?_
    refine ks_iconst (x := nI 1) dX2_dueBits_26 (by decide) rfl ?_
    refine ks_istore dX2_dueBits_27 (by decide) rfl ?_
    refine ks_sub [(4, _), (0, _), (1, _), (2, _), (3, _)] rfl ?_
    exact ks_sub [(0, _), (1, _), (2, _), (3, _), (4, _)] rfl (loop 7 1 x (by decide) hx hux)
  · refine ks_aload_n dX2_dueBits_19 rfl rfl ?_
    refine ks_callV (n := 0) (M' := mX0_bits) (c_bk_bits (d := d + 1) ox) ox.1 cl_X0 rfl kx_1005 kx_1006 kx_1007 kx_29 kx_1008 (by decide +kernel) rfl (by decide) (Nat.le_of_ble_eq_true rfl) rfl dX2_dueBits_20 rfl (fun z1 T1 y1 => ?_)
    obtain ⟨rfl, hT1⟩ := y1
    obtain rfl := hT1.symm
    rw [eb, show ks_num (mg (bkM (B x))) 72 4 = btB (bkM (B x)) from rfl]
    refine ks_iret rfl dX2_dueBits_23 ?_
    rw [if_neg h1]
    exact ⟨rfl, ks_up.rf _ _, N, hT⟩
def rhF (B : Nat → Bk) (M : List Nat) (q : Nat) : Nat := if bkD (B q) = true then 3 else if nI (btB M) = nI (dueB B q) then (if tmB M ≤ mdF B q then 5 else 0) else 4
theorem mdF_lt {S : ks_S} {n : Nat} {B : Nat → Bk} (hB : ∀ i, i < n → bkK S (B i)) (hW : chW n B) {x : Nat} (hx : x < n) : mdF B x < 2 ^ 32 := by
  have gen : ∀ (u k c : Nat) (f : Nat → Nat), k ≤ n → (∀ j, j < c → f j < 2 ^ 32) → ∀ j, j < (mdL B u k c f).1 → (mdL B u k c f).2 j < 2 ^ 32 := by
    intro u
    induction u with
    | zero => intro k c f hk h j hj; exact h j hj
    | succ u ih =>
      intro k c f hk h j hj
      unfold mdL at hj ⊢
      split
      · next h0 => rw [if_pos h0] at hj; exact h j hj
      · next h0 =>
        rw [if_neg h0] at hj
        have hp := hW.par (b := k - 1) (by omega)
        exact ih _ _ _ (by omega) (insF_lt h (btB_lt (hB (k - 1) (by omega))).2) j hj
  have e2 : 1 ≤ (mdL B 11 (x + 1) 0 (fun _ => 0)).1 := by
    rw [mdL, if_neg (by omega)]
    exact mdL_pos.1
  exact gen 11 (x + 1) 0 (fun _ => 0) (by omega) (fun j hj => absurd hj (Nat.not_lt_zero j)) _ (by omega)
set_option maxRecDepth 100000 in
set_option maxHeartbeats 800000 in
theorem c_ch_refuseHeader {l : Launch} {G : ks_G} {d : Nat} {S : ks_S} {n best : Nat} {cc : Int32} {tk : Int64} {B : Nat → Bk} (hX : chX S n best cc tk B) {b q N : Nat} {Mf : List Nat} {len cnt hei : Int32} {wk : Int64} {bad : Bool} {cr : Value} {g1 f2 g3 g4 f0 : Nat → Nat} (hF : bkX S b len cnt (nI q) hei wk bad cr g1 f2 g3 g4) (eg : ∀ j, j < Mf.length → g1 j = mg Mf j) (h80 : 80 < Mf.length) (hW : chW n B) (hq : q < n) (hT : tg_ok S N) (hhei : ∀ i, i < n → bkH (B i) < 2 ^ 30) (h48 : S.2.2 48 = some (kL 11 f0)) : ks_P l G yX2_refuseHeader mX2_refuseHeader (d + 4) [.ref 41, .ref b] S (fun z S' => z = some (.int (nI (rhF B Mf q))) ∧ ks_up S S' [45, 48] ∧ (∃ N2, tg_ok S' N2) ∧ ∃ f, S'.2.2 48 = some (kL 11 f)) := by
  obtain ⟨hO, ⟨bf, h42, hbf⟩, hB, hn60⟩ := id hX
  obtain ⟨g1q, f2q, g3q, g4q, oq, leq, egq, blq, stq, idq, hsq, coq⟩ := hB q (by omega)
  have b56 := hF.2.2.2.2.2.2.2.2.2
  have eb := bk_num (i := 72) (n := 4) eg (by omega)
  have et := bk_num (i := 68) (n := 4) eg (by omega)
  have tv : tmB Mf < 2 ^ 32 := by unfold tmB; rw [← et]; exact ks_num_lt hF.2.2.2.2.2.1 4 68
  have mv := mdF_lt hB hW hq
  refine ks_of (by decide) rfl rfl (Nat.le_of_ble_eq_true rfl) ?_
  show ks_X l G mX2_refuseHeader (d + 4) 0 [(0, .ref 41), (1, .ref b)] [] S _
  refine ks_aload_n dX2_refuseHeader_0 rfl rfl ?_
  refine ks_getf (T := TX2) (kf := 0) kx_729 rfl in_X2 cl_X2 (by decide) hO rfl dX2_refuseHeader_1 rfl ?_
  refine ks_aload_n dX2_refuseHeader_4 rfl rfl ?_
  refine ks_getf (T := TX0) (kf := 6) kx_952 rfl in_X0 cl_X0 (by decide) hF.1 rfl dX2_refuseHeader_5 rfl ?_
  refine ks_aaldN (i := q) (b := (bkN (B q))) (by decide) h42 rfl (by omega) (by decide) (hbf q (by omega)) dX2_refuseHeader_8 rfl ?_
  refine ks_getf (T := TX0) (kf := 9) kx_958 rfl in_X0 cl_X0 (by decide) oq.1 rfl dX2_refuseHeader_9 rfl ?_
  refine ks_if_eqZ (tgt := 17) dX2_refuseHeader_12 (by decide) rfl (fun h1 => ?_) (fun h1 => ?_)
  · refine ks_aload_n dX2_refuseHeader_17 rfl rfl ?_
    refine ks_callV (n := 0) (M' := mX0_bits) (c_bk_bits (d := d + 2) hF) hF.1 cl_X0 rfl kx_1005 kx_1006 kx_1007 kx_29 kx_1008 (by decide +kernel) rfl (by decide) (Nat.le_of_ble_eq_true rfl) rfl dX2_refuseHeader_18 rfl (fun z1 T1 y1 => ?_)
    obtain ⟨rfl, hT1⟩ := y1
    obtain rfl := hT1.symm
    rw [eb, show ks_num (mg Mf) 72 4 = btB Mf from rfl]
    refine ks_aload_n dX2_refuseHeader_21 rfl rfl ?_
    refine ks_aload_n dX2_refuseHeader_22 rfl rfl ?_
    refine ks_getf (T := TX0) (kf := 6) kx_952 rfl in_X0 cl_X0 (by decide) hF.1 rfl dX2_refuseHeader_23 rfl ?_
    refine ks_callV (n := 1) (M' := mX2_dueBits) (c_ch_dueBits (d := d) (x := q) hX hW hq hT hhei) hO cl_X2 rfl kx_1440 kx_1393 kx_1394 kx_26 kx_1395 (by decide +kernel) rfl (by decide) (Nat.le_of_ble_eq_true rfl) rfl dX2_refuseHeader_26 rfl (fun z2 T2 y2 => ?_)
    obtain ⟨rfl, u2, N2, G2⟩ := y2
    have X2 := hX.up u2 (by decide)
    have F2 := hF.up u2 (by intro x hx; rw [List.mem_singleton] at hx; omega)
    have e48 := u2.at h48 (by decide)
    refine ks_icmp_eq (tgt := 34) dX2_refuseHeader_29 (by decide) rfl (fun h2 => ?_) (fun h2 => ?_)
    · refine ks_aload_n dX2_refuseHeader_34 rfl rfl ?_
      refine ks_callV (n := 0) (M' := mX0_time) (c_bk_time (d := d + 2) F2) F2.1 cl_X0 rfl kx_1396 kx_1397 kx_1398 kx_29 kx_1399 (by decide +kernel) rfl (by decide) (Nat.le_of_ble_eq_true rfl) rfl dX2_refuseHeader_35 rfl (fun z3 T3 y3 => ?_)
      obtain ⟨rfl, hT3⟩ := y3
      obtain rfl := hT3.symm
      rw [et, show ks_num (mg Mf) 68 4 = tmB Mf from rfl]
      refine ks_aload_n dX2_refuseHeader_38 rfl rfl ?_
      refine ks_aload_n dX2_refuseHeader_39 rfl rfl ?_
      refine ks_getf (T := TX0) (kf := 6) kx_952 rfl in_X0 cl_X0 (by decide) F2.1 rfl dX2_refuseHeader_40 rfl ?_
      refine ks_callV (n := 1) (M' := mX2_middle) (c_ch_middle (d := d + 1) (x := q) X2 hW hq e48) X2.1 cl_X2 rfl kx_1441 kx_1442 kx_1443 kx_26 kx_1444 (by decide +kernel) rfl (by decide) (Nat.le_of_ble_eq_true rfl) rfl dX2_refuseHeader_43 rfl (fun z4 T4 y4 => ?_)
      obtain ⟨rfl, u4, f4, h4⟩ := y4
      refine ks_lif_gtN (tgt := 54) (by omega) (by omega) dX2_refuseHeader_46 rfl dX2_refuseHeader_47 (by decide) rfl (fun h5 => ?_) (fun h5 => ?_)
      · refine ks_iconst (x := nI 0) dX2_refuseHeader_54 (by decide) rfl ?_
        refine ks_iret rfl dX2_refuseHeader_55 ?_
        refine ⟨?_, (u2.mono (by decide)).trans (u4.mono (by decide)), ⟨N2, tg_ok.up G2 u4 (by decide) (by decide) (fun h => absurd h (by decide)) (fun h => absurd h (by decide))⟩, f4, h4⟩
        unfold rhF
        rw [if_neg (by rw [h1]; decide), if_pos h2, if_neg (by omega)]
      · refine ks_iconst (x := nI 5) dX2_refuseHeader_50 (by decide) rfl ?_
        refine ks_goto (tgt := 55) dX2_refuseHeader_51 (by decide) ?_
        refine ks_iret rfl dX2_refuseHeader_55 ?_
        refine ⟨?_, (u2.mono (by decide)).trans (u4.mono (by decide)), ⟨N2, tg_ok.up G2 u4 (by decide) (by decide) (fun h => absurd h (by decide)) (fun h => absurd h (by decide))⟩, f4, h4⟩
        unfold rhF
        rw [if_neg (by rw [h1]; decide), if_pos h2, if_pos (by omega)]
    · refine ks_iconst (x := nI 4) dX2_refuseHeader_32 (by decide) rfl ?_
      refine ks_iret rfl dX2_refuseHeader_33 ?_
      refine ⟨?_, u2.mono (by decide), ⟨N2, G2⟩, f0, e48⟩
      unfold rhF
      rw [if_neg (by rw [h1]; decide), if_neg h2]
  · refine ks_iconst (x := nI 3) dX2_refuseHeader_15 (by decide) rfl ?_
    refine ks_iret rfl dX2_refuseHeader_16 ?_
    refine ⟨?_, ks_up.rf _ _, ⟨N, hT⟩, f0, h48⟩
    unfold rhF
    rw [if_pos h1]
/-- the blocks from one on down that were never connected -/
def clL (B : Nat → Bk) : Nat → Nat → List Nat
  | 0, _ => []
  | u + 1, k => if k = 0 then [] else match bkC (B (k - 1)) with
    | some _ => []
    | none => (k - 1) :: clL B u (bkP (B (k - 1)))
theorem clL_len {B : Nat → Bk} : ∀ {u k : Nat}, (clL B u k).length ≤ u
  | 0, k => Nat.le_refl 0
  | u + 1, k => by
    unfold clL
    split
    · exact Nat.zero_le _
    · split
      · exact Nat.zero_le _
      · have := @clL_len B u (bkP (B (k - 1))); simp; omega
set_option maxRecDepth 100000 in
set_option maxHeartbeats 800000 in
theorem c_ch_climb {l : Launch} {G : ks_G} {d : Nat} {S : ks_S} {n best : Nat} {cc : Int32} {tk : Int64} {B : Nat → Bk} (hX : chX S n best cc tk B) {x : Nat} {f0 : Nat → Nat} (hW : chW n B) (hx : x < n) (h43 : S.2.2 43 = some (kN 60 f0)) : ks_P l G yX2_climb mX2_climb d [.ref 41, .int (nI x)] S (fun z S' => z = some (.int (nI (clL B 60 (x + 1)).length)) ∧ ks_up S S' [43] ∧ ∃ fp, S'.2.2 43 = some (kN 60 fp) ∧ ∀ i, i < (clL B 60 (x + 1)).length → fp i = (clL B 60 (x + 1)).getD i 0) := by
  obtain ⟨R, hR⟩ : ∃ R, clL B 60 (x + 1) = R := ⟨_, rfl⟩
  rw [hR]
  have hR60 : R.length ≤ 60 := by rw [← hR]; exact clL_len
  have loop : ∀ (u s k : Nat) (S1 : ks_S) (f : Nat → Nat) (pre : List Nat), s + u = 60 → k ≤ n → pre.length = s → pre ++ clL B u k = R → ks_up S S1 [43] → S1.2.2 43 = some (kN 60 f) → (∀ j, j < s → f j = pre.getD j 0) → ks_X l G mX2_climb d 4 [(0, .ref 41), (1, .int (nI x)), (2, .int (nI s)), (3, .int (nI k - 1))] [] S1 (fun z S' => z = some (.int (nI R.length)) ∧ ks_up S S' [43] ∧ ∃ fp, S'.2.2 43 = some (kN 60 fp) ∧ ∀ i, i < R.length → fp i = R.getD i 0) := by
    intro u
    induction u with
    | zero =>
      intro s k S1 f pre hsu hk hpl hpr hu h43 hf
      have X1 := hX.up hu (by decide)
      obtain ⟨hO, ⟨bf, h42, hbf⟩, hB, hn60⟩ := id X1
      refine ks_iload_n dX2_climb_4 rfl rfl ?_
      refine ks_if_ltD (tgt := 52) (by omega) dX2_climb_5 (by decide) rfl (fun h1 => ?_) (fun h1 => ?_)
      · refine ks_iload_n dX2_climb_52 rfl rfl ?_
        refine ks_iret rfl dX2_climb_53 ?_
        have e9 : R = pre := by rw [← hpr, show clL B 0 k = [] from rfl, List.append_nil]
        rw [e9, hpl]
        exact ⟨rfl, hu, f, h43, hf⟩
      · refine ks_iload_n dX2_climb_8 rfl rfl ?_
        refine ks_aload_n dX2_climb_9 rfl rfl ?_
        refine ks_getf (T := TX2) (kf := 1) kx_731 rfl in_X2 cl_X2 (by decide) hO rfl dX2_climb_10 rfl ?_
        refine ks_alen (by decide) h43 rfl (by decide) dX2_climb_13 rfl ?_
        refine ks_ti (y := nI 60) rfl ?_
        refine ks_icmp_geN (tgt := 52) (by omega) (by decide) dX2_climb_14 (by decide) rfl (fun h2 => ?_) (fun h2 => ?_)
        · refine ks_iload_n dX2_climb_52 rfl rfl ?_
          refine ks_iret rfl dX2_climb_53 ?_
          have e9 : R = pre := by rw [← hpr, show clL B 0 k = [] from rfl, List.append_nil]
          rw [e9, hpl]
          exact ⟨rfl, hu, f, h43, hf⟩
        · omega
    | succ u ih =>
      intro s k S1 f pre hsu hk hpl hpr hu h43 hf
      have X1 := hX.up hu (by decide)
      obtain ⟨hO, ⟨bf, h42, hbf⟩, hB, hn60⟩ := id X1
      refine ks_iload_n dX2_climb_4 rfl rfl ?_
      refine ks_if_ltD (tgt := 52) (by omega) dX2_climb_5 (by decide) rfl (fun h1 => ?_) (fun h1 => ?_)
      · refine ks_iload_n dX2_climb_52 rfl rfl ?_
        refine ks_iret rfl dX2_climb_53 ?_
        have e9 : R = pre := by rw [← hpr, clL, if_pos h1, List.append_nil]
        rw [e9, hpl]
        exact ⟨rfl, hu, f, h43, hf⟩
      · refine ks_iload_n dX2_climb_8 rfl rfl ?_
        refine ks_aload_n dX2_climb_9 rfl rfl ?_
        refine ks_getf (T := TX2) (kf := 1) kx_731 rfl in_X2 cl_X2 (by decide) hO rfl dX2_climb_10 rfl ?_
        refine ks_alen (by decide) h43 rfl (by decide) dX2_climb_13 rfl ?_
        refine ks_ti (y := nI 60) rfl ?_
        refine ks_icmp_geN (tgt := 52) (by omega) (by decide) dX2_climb_14 (by decide) rfl (fun h2 => ?_) (fun h2 => ?_)
        · omega
        · obtain ⟨q, rfl⟩ : ∃ q, k = q + 1 := ⟨k - 1, by omega⟩
          rw [clL, if_neg h1, Nat.add_sub_cancel] at hpr
          have hp := hW.par (b := q) (by omega)
          rw [nI_pred]
          obtain ⟨g1x, f2x, g3x, g4x, ox, lex, egx, blx, stx, idx, hsx, cox⟩ := hB q (by omega)
          have b56 := ox.2.2.2.2.2.2.2.2.2
          cases hcq : bkC (B q) with
          | none =>
            rw [hcq] at ox hpr
            simp only [] at hpr
            refine ks_aload_n dX2_climb_17 rfl rfl ?_
            refine ks_getf (T := TX2) (kf := 0) kx_729 rfl in_X2 cl_X2 (by decide) hO rfl dX2_climb_18 rfl ?_
            refine ks_iload_n dX2_climb_21 rfl rfl ?_
            refine ks_aaldN (i := q) (b := (bkN (B q))) (by decide) h42 rfl (by omega) (by decide) (hbf q (by omega)) dX2_climb_22 rfl ?_
            refine ks_getf (T := TX0) (kf := 10) kx_959 rfl in_X0 cl_X0 (by decide) ox.1 rfl dX2_climb_23 rfl ?_
            refine ks_ifnonnullN dX2_climb_26 rfl ?_
            refine ks_aload_n dX2_climb_29 rfl rfl ?_
            refine ks_getf (T := TX2) (kf := 1) kx_731 rfl in_X2 cl_X2 (by decide) hO rfl dX2_climb_30 rfl ?_
            refine ks_iload_n dX2_climb_33 rfl rfl ?_
            refine ks_iload_n dX2_climb_34 rfl rfl ?_
            refine ks_iastNN (i := s) (v := q) (by decide) h43 (by omega) (by decide) dX2_climb_35 rfl ?_
            refine ks_incN (c := 1) (e := s + 1) dX2_climb_36 rfl (by decide) rfl (by decide) rfl ?_
            refine ks_sub [(2, _), (0, _), (1, _), (3, _)] rfl ?_
            refine ks_aload_n dX2_climb_39 rfl rfl ?_
            refine ks_getf (T := TX2) (kf := 0) kx_729 rfl in_X2 cl_X2 (by decide) ((ks_set_ne _ _ (by decide)).trans hO) rfl dX2_climb_40 rfl ?_
            refine ks_iload_n dX2_climb_43 rfl rfl ?_
            refine ks_aaldN (i := q) (b := (bkN (B q))) (by decide) ((ks_set_ne _ _ (by decide)).trans h42) rfl (by omega) (by decide) (hbf q (by omega)) dX2_climb_44 rfl ?_
            refine ks_getf (T := TX0) (kf := 6) kx_952 rfl in_X0 cl_X0 (by decide) ((ks_set_ne _ _ (by omega)).trans ox.1) rfl dX2_climb_45 rfl ?_
            refine ks_istore_n dX2_climb_48 (by decide) rfl ?_
            refine ks_sub [(3, _), (0, _), (1, _), (2, _)] rfl ?_
            refine ks_goto (tgt := 4) dX2_climb_49 (by decide) ?_
            refine ks_sub [(0, _), (1, _), (2, _), (3, _)] rfl (ih (s + 1) (bkP (B q)) _ _ (pre ++ [q]) (by omega) (by omega) (by simp [hpl]) (by rw [List.append_assoc]; exact hpr) (hu.trans (ks_up_set _ _ (by decide))) (ks_set_same _ _ _) (fun j hj => ?_))
            rw [getD_app, hpl]
            by_cases c9 : j = s
            · subst c9; rw [va_up_self, if_neg (by omega), Nat.sub_self]; rfl
            · rw [va_up_ne _ _ c9, if_pos (by omega)]; exact hf j (by omega)
          | some cq =>
            rw [hcq] at ox hpr
            simp only [] at hpr
            refine ks_aload_n dX2_climb_17 rfl rfl ?_
            refine ks_getf (T := TX2) (kf := 0) kx_729 rfl in_X2 cl_X2 (by decide) hO rfl dX2_climb_18 rfl ?_
            refine ks_iload_n dX2_climb_21 rfl rfl ?_
            refine ks_aaldN (i := q) (b := (bkN (B q))) (by decide) h42 rfl (by omega) (by decide) (hbf q (by omega)) dX2_climb_22 rfl ?_
            refine ks_getf (T := TX0) (kf := 10) kx_959 rfl in_X0 cl_X0 (by decide) ox.1 rfl dX2_climb_23 rfl ?_
            refine ks_ifnonnull (tgt := 52) dX2_climb_26 (by decide) ?_
            refine ks_iload_n dX2_climb_52 rfl rfl ?_
            refine ks_iret rfl dX2_climb_53 ?_
            have e9 : R = pre := by rw [← hpr, List.append_nil]
            rw [e9, hpl]
            exact ⟨rfl, hu, f, h43, hf⟩
  refine ks_of (by decide) rfl rfl (Nat.le_of_ble_eq_true rfl) ?_
  show ks_X l G mX2_climb d 0 [(0, .ref 41), (1, .int (nI x))] [] S _
  refine ks_iconst (x := nI 0) dX2_climb_0 (by decide) rfl ?_
  refine ks_istore_n dX2_climb_1 (by decide) rfl ?_
  refine ks_sub [(2, _), (0, _), (1, _)] rfl ?_
  refine ks_iload_n dX2_climb_2 rfl rfl ?_
  refine ks_istore_n dX2_climb_3 (by decide) rfl ?_
  refine ks_sub [(3, _), (0, _), (1, _), (2, _)] rfl ?_
  exact ks_sub [(0, _), (1, _), (2, _), (3, .int (nI (x + 1) - 1))] (by rw [nI_pred]; rfl) (loop 60 0 (x + 1) S f0 [] rfl (by omega) rfl hR (ks_up.rf _ _) h43 (fun j hj => absurd hj (Nat.not_lt_zero j)))
