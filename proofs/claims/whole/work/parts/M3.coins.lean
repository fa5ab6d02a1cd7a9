/-! THE REFERENCE: coins are found -/
/-- a mark names an output -/
def rmK (n : Nat) (B : Nat → Bk) (x : Nat) : Prop := x / 3072 < n ∧ x / 256 % 12 < mg (bkM (B (x / 3072))) 80 ∧ x % 256 < (txP (bkM (B (x / 3072))) (x / 256 % 12)).2.2.1
def rmIs (B : Nat → Bk) (ix : Nat) (id : Nat → Nat) (x : Nat) : Bool := decide (x % 256 = ix) && sm32 (idB (bkM (B (x / 3072))) (x / 256 % 12)) 0 id 0
def plR (B : Nat → Bk) (ix : Nat) (id : Nat → Nat) (R : List Nat) : Nat := plD (fun i => rmIs B ix id (R.getD i 0)) R.length 0
def rmV (B : Nat → Bk) (x : Nat) : Nat := ks_num (mg (bkM (B (x / 3072)))) (oA (mg (bkM (B (x / 3072)))) (bkM (B (x / 3072))).length (txP (bkM (B (x / 3072))) (x / 256 % 12)).2.2.2.1 (x % 256)) 8
theorem rmK.b {n : Nat} {B : Nat → Bk} {x : Nat} (h : rmK n B x) (hn : n ≤ 61) : x < 200000 := by
  have := h.1
  omega
set_option maxRecDepth 100000 in
set_option maxHeartbeats 800000 in
theorem c_md_findCoin {l : Launch} {G : ks_G} {d : Nat} {S : ks_S} {V : Nat → Value} {n : Nat} {B : Nat → Bk} (hO : S.2.2 290 = some (rfE V)) (hR : rbS S n B) {y N a ix r Nr : Nat} {gy f : Nat → Nat} {R : List Nat} (hy : S.2.2 y = some (kB N gy)) (kgy : kO gy) (ha : a + 32 ≤ N) (hN : N < 2 ^ 28) (hix : ix < 2 ^ 63) (hr : S.2.2 r = some (kN Nr f)) (hr9 : r ≠ 0 ∧ Nr < 2 ^ 28) (hf : ∀ i, i < R.length → f i = R.getD i 0) (hRl : R.length ≤ Nr) (hm : ∀ x ∈ R, rmK n B x) : ks_P l G yX16_findCoin mX16_findCoin (d + 1) [.ref 290, .ref y, .int (nI a), .long (lN ix), .ref r, .int (nI R.length)] S (fun z S' => z = some (.int (nI (plR B ix (fun j => gy (a + j)) R) - 1)) ∧ S' = S) := by
  obtain ⟨⟨bf, h341, hbf⟩, hB, hn61⟩ := id hR
  have loop : ∀ (u b : Nat), b + u = R.length → plD (fun i => rmIs B ix (fun j => gy (a + j)) (R.getD i 0)) u b = (plR B ix (fun j => gy (a + j)) R) → ks_X l G mX16_findCoin (d + 1) 3 [(0, .ref 290), (1, .ref y), (2, .int (nI a)), (3, .long (lN ix)), (5, .ref r), (6, .int (nI R.length)), (7, .int (nI b))] [] S (fun z S' => z = some (.int (nI (plR B ix (fun j => gy (a + j)) R) - 1)) ∧ S' = S) := by
    intro u
    induction u with
    | zero =>
      intro b hi he
      refine ks_iload dX16_findCoin_3 rfl rfl ?_
      refine ks_iload dX16_findCoin_5 rfl rfl ?_
      refine ks_icmp_geN (tgt := 77) (by omega) (by omega) dX16_findCoin_7 (by decide) rfl (fun h1 => ?_) (fun h1 => absurd h1 (by omega))
      refine ks_iconst (x := (-1)) dX16_findCoin_77 (by decide) rfl ?_
      refine ks_iret rfl dX16_findCoin_78 ?_
      rw [← he]
      exact ⟨rfl, rfl⟩
    | succ u ih =>
      intro b hi he
      refine ks_iload dX16_findCoin_3 rfl rfl ?_
      refine ks_iload dX16_findCoin_5 rfl rfl ?_
      refine ks_icmp_geN (tgt := 77) (by omega) (by omega) dX16_findCoin_7 (by decide) rfl (fun h1 => absurd h1 (by omega)) (fun h1 => ?_)
      have hx9 := hm (R.getD b 0) (getD_mem (by omega))
      have hxb := hx9.b hn61
      have ef := hf b (by omega)
      rw [plD] at he
      obtain ⟨x, ex⟩ : ∃ x, x = R.getD b 0 := ⟨_, rfl⟩
      rw [← ex] at hx9 hxb ef
      rw [← ex] at he
      obtain ⟨x1, x2, x3⟩ := id hx9
      refine ks_aload dX16_findCoin_10 rfl rfl ?_
      refine ks_iload dX16_findCoin_12 rfl rfl ?_
      refine ks_ialdN (i := b) hr rfl (by omega) (by omega) dX16_findCoin_14 rfl ?_
      rw [ef]
      refine ks_istore dX16_findCoin_15 (by decide) rfl ?_
      refine ks_sub [(8, _), (0, _), (1, _), (2, _), (3, _), (5, _), (6, _), (7, _)] rfl ?_
      refine ks_iload dX16_findCoin_17 rfl rfl ?_
      refine ks_sipush (x := nI 255) dX16_findCoin_19 (by decide) rfl ?_
      refine ks_andN (k := 8) (by omega) (by decide) dX16_findCoin_22 rfl ?_
      refine ks_i2lN (by omega) dX16_findCoin_23 rfl ?_
      refine ks_lload_n dX16_findCoin_24 rfl rfl ?_
      refine ks_lif_neN (tgt := 71) (by omega) (by omega) dX16_findCoin_25 rfl dX16_findCoin_26 (by decide) rfl (fun h2 => ?_) (fun h2 => ?_)
      · rw [if_neg (by unfold rmIs; rw [decide_eq_false (p := x % 256 = ix) h2, Bool.false_and]; decide)] at he
        refine ks_sub [(0, _), (1, _), (2, _), (3, _), (5, _), (6, _), (7, _)] rfl ?_
        refine ks_incN (c := 1) (e := b + 1) dX16_findCoin_71 rfl (by decide) rfl (by decide) rfl ?_
        refine ks_sub [(7, _), (0, _), (1, _), (2, _), (3, _), (5, _), (6, _)] rfl ?_
        refine ks_goto (tgt := 3) dX16_findCoin_74 (by decide) ?_
        exact ks_sub [(0, _), (1, _), (2, _), (3, _), (5, _), (6, _), (7, _)] rfl (ih (b + 1) (by omega) he)
      · obtain ⟨ob, pdb, ⟨ghb, ehb, khb, ahb⟩, wkb, bdb⟩ := hB (x / 3072) (by omega)
        obtain ⟨gb, Ab, gib, ⟨eyb, kgb⟩, ⟨hMNb, hN16b, hPBb, hP6b, hy6b⟩, hgb, hblb, Xb, hAb⟩ := id pdb
        have cb := (blk_b hblb).2
        refine ks_aload_n dX16_findCoin_29 rfl rfl ?_
        refine ks_getf (T := TX16) (kf := 46) kx_2414 rfl in_X16 cl_X16 (by decide) hO rfl dX16_findCoin_30 rfl ?_
        refine ks_iload dX16_findCoin_33 rfl rfl ?_
        refine ks_sipush (x := nI 3072) dX16_findCoin_35 (by decide) rfl ?_
        refine ks_divN (by omega) (by decide) (by decide) dX16_findCoin_38 rfl ?_
        refine ks_aaldN (i := x / 3072) (b := (bkN (B (x / 3072)))) (by decide) h341 rfl (by omega) (by decide) (hbf (x / 3072) (by omega)) dX16_findCoin_39 rfl ?_
        refine ks_getN (T := TX12) (kf := 3) kx_2063 rfl in_X12 cl_X12 (by decide) ob rfl dX16_findCoin_40 rfl ?_
        refine ks_getN (T := TX13) (kf := 8) kx_1828 rfl in_X13 cl_X13 (by decide) Xb.1 rfl dX16_findCoin_43 rfl ?_
        refine ks_bipush (x := nI 32) dX16_findCoin_46 (by decide) rfl ?_
        refine ks_iload dX16_findCoin_48 rfl rfl ?_
        refine ks_sipush (x := nI 256) dX16_findCoin_50 (by decide) rfl ?_
        refine ks_divN (by omega) (by decide) (by decide) dX16_findCoin_53 rfl ?_
        refine ks_bipush (x := nI 12) dX16_findCoin_54 (by decide) rfl ?_
        refine ks_remN (by omega) (by decide) (by decide) dX16_findCoin_56 rfl ?_
        refine ks_mulN dX16_findCoin_57 rfl ?_
        refine ks_aload_n dX16_findCoin_58 rfl rfl ?_
        refine ks_iload_n dX16_findCoin_59 rfl rfl ?_
        refine ks_bipush (x := nI 32) dX16_findCoin_60 (by decide) rfl ?_
        refine ks_callS (n := 5) (M' := mX16_alike) (c_md_alike32 (d := d) Xb.2.2.1 Xb.2.2.2 hy kgy (i := 32 * (x / 256 % 12)) (k := a) (by omega) ha (by decide) hN) kx_2134 kx_2135 kx_30 kx_2136 (by decide +kernel) rfl (by decide) (Nat.le_of_ble_eq_true rfl) rfl dX16_findCoin_62 rfl (fun z1 T1 y1 => ?_)
        obtain ⟨rfl, hT⟩ := y1
        obtain rfl := hT.symm
        have es : sm32 gib (32 * (x / 256 % 12)) gy a = rmIs B ix (fun j => gy (a + j)) x := by
          unfold rmIs
          rw [decide_eq_true (p := x % 256 = ix) h2, Bool.true_and]
          exact sm32_cg (fun j hj => by rw [Nat.zero_add]; exact (hAb _ x2).2.2.2 j hj) (fun j hj => by rw [Nat.zero_add])
        rw [es]
        refine ks_if_eqZ (tgt := 71) dX16_findCoin_65 (by decide) rfl (fun h3 => ?_) (fun h3 => ?_)
        · rw [if_neg (by rw [h3]; decide)] at he
          refine ks_sub [(0, _), (1, _), (2, _), (3, _), (5, _), (6, _), (7, _)] rfl ?_
          refine ks_incN (c := 1) (e := b + 1) dX16_findCoin_71 rfl (by decide) rfl (by decide) rfl ?_
          refine ks_sub [(7, _), (0, _), (1, _), (2, _), (3, _), (5, _), (6, _)] rfl ?_
          refine ks_goto (tgt := 3) dX16_findCoin_74 (by decide) ?_
          exact ks_sub [(0, _), (1, _), (2, _), (3, _), (5, _), (6, _), (7, _)] rfl (ih (b + 1) (by omega) he)
        · rw [if_pos h3] at he
          refine ks_iload dX16_findCoin_68 rfl rfl ?_
          refine ks_iret rfl dX16_findCoin_70 ?_
          rw [← he, nI_pred]
          exact ⟨rfl, rfl⟩
  refine ks_of (by decide) rfl rfl (Nat.le_of_ble_eq_true rfl) ?_
  show ks_X l G mX16_findCoin (d + 1) 0 [(0, .ref 290), (1, .ref y), (2, .int (nI a)), (3, .long (lN ix)), (5, .ref r), (6, .int (nI R.length))] [] S _
  refine ks_iconst (x := nI 0) dX16_findCoin_0 (by decide) rfl ?_
  refine ks_istore dX16_findCoin_1 (by decide) rfl ?_
  refine ks_sub [(7, _), (0, _), (1, _), (2, _), (3, _), (5, _), (6, _)] rfl ?_
  exact ks_sub [(0, _), (1, _), (2, _), (3, _), (5, _), (6, _), (7, _)] rfl (loop R.length 0 (by omega) rfl)
set_option maxRecDepth 100000 in
set_option maxHeartbeats 800000 in
theorem c_md_valueOf {l : Launch} {G : ks_G} {d : Nat} {S : ks_S} {V : Nat → Value} {n : Nat} {B : Nat → Bk} (hO : S.2.2 290 = some (rfE V)) (hR : rbS S n B) {x : Nat} (hx9 : rmK n B x) : ks_P l G yX16_valueOf mX16_valueOf (d + 3) [.ref 290, .int (nI x)] S (fun z S' => z = some (.long (lN (rmV B x))) ∧ ∃ V', skK S S' V V') := by
  obtain ⟨⟨bf, h341, hbf⟩, hB, hn61⟩ := id hR
  have hxb := hx9.b hn61
  obtain ⟨x1, x2, x3⟩ := id hx9
  obtain ⟨ob, pdb, ⟨ghb, ehb, khb, ahb⟩, wkb, bdb⟩ := hB (x / 3072) (by omega)
  obtain ⟨gb, Ab, gib, ⟨eyb, kgb⟩, ⟨hMNb, hN16b, hPBb, hP6b, hy6b⟩, hgb, hblb, Xb, hAb⟩ := id pdb
  have tx6 := bk_tx5 hblb x2
  have q2 := tx_out tx6 (x % 256) x3
  have q3 := tx_bd tx6
  refine ks_of (by decide) rfl rfl (Nat.le_of_ble_eq_true rfl) ?_
  show ks_X l G mX16_valueOf (d + 3) 0 [(0, .ref 290), (1, .int (nI x))] [] S _
  refine ks_aload_n dX16_valueOf_0 rfl rfl ?_
  refine ks_getf (T := TX16) (kf := 46) kx_2414 rfl in_X16 cl_X16 (by decide) hO rfl dX16_valueOf_1 rfl ?_
  refine ks_iload_n dX16_valueOf_4 rfl rfl ?_
  refine ks_sipush (x := nI 3072) dX16_valueOf_5 (by decide) rfl ?_
  refine ks_divN (by omega) (by decide) (by decide) dX16_valueOf_8 rfl ?_
  refine ks_aaldN (i := x / 3072) (b := (bkN (B (x / 3072)))) (by decide) h341 rfl (by omega) (by decide) (hbf (x / 3072) (by omega)) dX16_valueOf_9 rfl ?_
  refine ks_getN (T := TX12) (kf := 3) kx_2063 rfl in_X12 cl_X12 (by decide) ob rfl dX16_valueOf_10 rfl ?_
  refine ks_astore_n dX16_valueOf_13 (by decide) rfl ?_
  refine ks_sub [(2, _), (0, _), (1, _)] rfl ?_
  refine ks_aload_n dX16_valueOf_14 rfl rfl ?_
  refine ks_aload_n dX16_valueOf_15 rfl rfl ?_
  refine ks_getN (T := TX13) (kf := 0) kx_1813 rfl in_X13 cl_X13 (by decide) Xb.1 rfl dX16_valueOf_16 rfl ?_
  refine ks_aload_n dX16_valueOf_19 rfl rfl ?_
  refine ks_aload_n dX16_valueOf_20 rfl rfl ?_
  refine ks_iload_n dX16_valueOf_21 rfl rfl ?_
  refine ks_sipush (x := nI 256) dX16_valueOf_22 (by decide) rfl ?_
  refine ks_divN (by omega) (by decide) (by decide) dX16_valueOf_25 rfl ?_
  refine ks_bipush (x := nI 12) dX16_valueOf_26 (by decide) rfl ?_
  refine ks_remN (by omega) (by decide) (by decide) dX16_valueOf_28 rfl ?_
  refine ks_iload_n dX16_valueOf_29 rfl rfl ?_
  refine ks_sipush (x := nI 255) dX16_valueOf_30 (by decide) rfl ?_
  refine ks_andN (k := 8) (by omega) (by decide) dX16_valueOf_33 rfl ?_
  refine ks_callV (n := 3) (M' := mX16_output) (c_pd_output (d := d) hO pdb (t := x / 256 % 12) (i := x % 256) x2 x3) hO cl_X16 rfl kx_2141 kx_2143 kxp_82 kx_30 kx_2144 (by decide +kernel) rfl (by decide) (Nat.le_of_ble_eq_true rfl) rfl dX16_valueOf_34 rfl (fun z1 S1 y1 => ?_)
  obtain ⟨rfl, V1, sk1⟩ := y1
  have pd1 := sk1.pd pdb
  have o1 := sk1.2.1
  refine ks_bipush (x := nI 8) dX16_valueOf_37 (by decide) rfl ?_
  refine ks_callV (n := 3) (M' := mX16_number) (c_pd_num (d := d + 2) pd1 (i := oA (mg (bkM (B (x / 3072)))) (bkM (B (x / 3072))).length (txP (bkM (B (x / 3072))) (x / 256 % 12)).2.2.2.1 (x % 256)) (k := 8) (by omega) (by decide)) o1 cl_X16 rfl kx_2020 kx_2022 kxp_68 kx_30 kx_2023 (by decide +kernel) rfl (by decide) (Nat.le_of_ble_eq_true rfl) rfl dX16_valueOf_39 rfl (fun z2 S2 y2 => ?_)
  obtain ⟨rfl, hT2⟩ := y2
  obtain rfl := hT2.symm
  refine ks_lret rfl dX16_valueOf_42 ?_
  exact ⟨rfl, V1, sk1⟩
