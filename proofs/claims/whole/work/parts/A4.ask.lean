/-! THE JUDGE: words, blocks, coins; the draft begins -/
theorem nI_nn {a : Nat} (h : a < 2 ^ 31) : (0 : Int32) ≤ nI a := nI_pos' h
def wdN (T : List Nat) (k : Nat) : Nat → Nat
  | 0 => 0
  | i + 1 => wdN T k i * 2 ^ 8 + mg T (k + i)
theorem mg_out {T : List Nat} {j : Nat} (h : T.length ≤ j) : mg T j = 0 := by
  unfold mg
  simp [List.getD, h]
set_option maxRecDepth 100000 in
set_option maxHeartbeats 800000 in
theorem c_jd_word {l : Launch} {G : ks_G} {d : Nat} {S : ks_S} {dc dp : Nat} {dt : Int64} {rs : Int32} (h0 : S.2.2 0 = some (jdO dc dp dt rs)) {T : List Nat} (hT : bfS S 1 2 1600 (some T)) {k : Nat} (hk : k < T.length) : ks_P l G yX11_word mX11_word d [.ref 0, .int (nI k)] S (fun z S' => z = some (.long (lN (wdN T k 8))) ∧ S' = S) := by
  have h0 : S.2.2 0 = some (.inr (14, [.ref 1, .ref 3, .ref 5, .ref 7, .ref 14, .ref 20, .ref 27, .ref 41, .ref 52, .ref 53, .ref 54, .ref 55, .int (nI dc), .int (nI dp), .long dt, .int rs])) := h0
  obtain ⟨len, g, kg, hl16, e2, e1, ⟨hl, hg⟩⟩ := id hT
  have loop : ∀ (u i : Nat), i + u = 8 → wdN T k i < 2 ^ (8 * i) → ks_X l G mX11_word d 28 [(0, .ref 0), (1, .int (nI k)), (2, .long (lN (wdN T k i))), (4, .int (nI i))] [] S (fun z S' => z = some (.long (lN (wdN T k 8))) ∧ S' = S) := by
    intro u
    induction u with
    | zero =>
      intro i hiu hb
      refine ks_iload dX11_word_28 rfl rfl ?_
      refine ks_bipush (x := nI 8) dX11_word_30 (by decide) rfl ?_
      refine ks_icmp_geN (tgt := 82) (by omega) (by decide) dX11_word_32 (by decide) rfl (fun h1 => ?_) (fun h1 => ?_)
      · refine ks_lload_n dX11_word_82 rfl rfl ?_
        refine ks_lret rfl dX11_word_83 ?_
        obtain rfl : i = 8 := by omega
        exact ⟨rfl, rfl⟩
      · omega
    | succ u ih =>
      intro i hiu hb
      refine ks_iload dX11_word_28 rfl rfl ?_
      refine ks_bipush (x := nI 8) dX11_word_30 (by decide) rfl ?_
      refine ks_icmp_geN (tgt := 82) (by omega) (by decide) dX11_word_32 (by decide) rfl (fun h1 => ?_) (fun h1 => ?_)
      · omega
      · have hp : 2 ^ (8 * i) ≤ 2 ^ 56 := Nat.pow_le_pow_right (by decide) (by omega)
        have hb2 : wdN T k i < 2 ^ 56 := Nat.lt_of_lt_of_le hb hp
        have hb3 : ∀ q, q < 256 → wdN T k i * 2 ^ 8 + q < 2 ^ (8 * (i + 1)) := fun q hq => by
          rw [show 8 * (i + 1) = 8 * i + 8 by omega, Nat.pow_add]
          have := Nat.mul_le_mul_right (2 ^ 8) (Nat.succ_le_of_lt hb)
          omega
        obtain ⟨ac, hac⟩ : ∃ a, wdN T k i = a := ⟨_, rfl⟩
        have hs : wdN T k (i + 1) = ac * 2 ^ 8 + mg T (k + i) := by rw [wdN, hac]
        rw [hac] at hb2 hb3 ⊢
        refine ks_lload_n dX11_word_35 rfl rfl ?_
        refine ks_bipush (x := nI 8) dX11_word_36 (by decide) rfl ?_
        refine ks_lshlN (k := 8) (by decide) dX11_word_38 rfl ?_
        refine ks_iload_n dX11_word_39 rfl rfl ?_
        refine ks_iload dX11_word_40 rfl rfl ?_
        refine ks_addN dX11_word_42 rfl ?_
        refine ks_aload_n dX11_word_43 rfl rfl ?_
        refine ks_getf (T := TX11) (kf := 0) kx_1053 rfl in_X11 cl_X11 (by decide) h0 rfl dX11_word_44 rfl ?_
        refine ks_getf (T := TX1) (kf := 1) kx_59 rfl in_X1 cl_X1 (by decide) e1 rfl dX11_word_47 rfl ?_
        refine ks_icmp_geN (tgt := 72) (by omega) (by omega) dX11_word_50 (by decide) rfl (fun h2 => ?_) (fun h2 => ?_)
        · rw [mg_out (by omega : T.length ≤ k + i)] at hs
          refine ks_iconst (x := nI 0) dX11_word_72 (by decide) rfl ?_
          refine ks_i2lN (by decide) dX11_word_73 rfl ?_
          refine ks_lorN (a := ac) (k := 8) (p := 2 ^ 8) rfl (by decide) (by omega) dX11_word_74 rfl ?_
          refine ks_lstore_n dX11_word_75 (by decide) rfl ?_
          refine ks_sub [(2, _), (0, _), (1, _), (4, _)] rfl ?_
          refine ks_incN (c := 1) (e := i + 1) dX11_word_76 rfl (by decide) rfl (by decide) rfl ?_
          refine ks_sub [(4, _), (0, _), (1, _), (2, _)] rfl ?_
          refine ks_goto (tgt := 28) dX11_word_79 (by decide) ?_
          rw [← hs]
          exact ks_sub [(0, _), (1, _), (2, _), (4, _)] rfl (ih (i + 1) (by omega) (by rw [hs]; exact hb3 0 (by decide)))
        · have ge : g (k + i) = mg T (k + i) := hg _ (by omega)
          have gl := kg (k + i)
          refine ks_aload_n dX11_word_53 rfl rfl ?_
          refine ks_getf (T := TX11) (kf := 0) kx_1053 rfl in_X11 cl_X11 (by decide) h0 rfl dX11_word_54 rfl ?_
          refine ks_getf (T := TX1) (kf := 0) kx_54 rfl in_X1 cl_X1 (by decide) e1 rfl dX11_word_57 rfl ?_
          refine ks_iload_n dX11_word_60 rfl rfl ?_
          refine ks_iload dX11_word_61 rfl rfl ?_
          refine ks_addN dX11_word_63 rfl ?_
          refine ks_baldB (i := k + i) e2 rfl (by omega) (by decide) dX11_word_64 rfl ?_
          refine ks_sipush (x := nI 255) dX11_word_65 (by decide) rfl ?_
          refine ks_andB (kg _) dX11_word_68 rfl ?_
          have hy68 : g (k + i) < 256 := (kg _)
          refine ks_goto (tgt := 73) dX11_word_69 (by decide) ?_
          refine ks_i2lN (by omega) dX11_word_73 rfl ?_
          refine ks_lorN (a := ac) (k := 8) (p := 2 ^ 8) rfl (by omega) (by omega) dX11_word_74 rfl ?_
          refine ks_lstore_n dX11_word_75 (by decide) rfl ?_
          refine ks_sub [(2, _), (0, _), (1, _), (4, _)] rfl ?_
          refine ks_incN (c := 1) (e := i + 1) dX11_word_76 rfl (by decide) rfl (by decide) rfl ?_
          refine ks_sub [(4, _), (0, _), (1, _), (2, _)] rfl ?_
          refine ks_goto (tgt := 28) dX11_word_79 (by decide) ?_
          rw [ge, ← hs]
          exact ks_sub [(0, _), (1, _), (2, _), (4, _)] rfl (ih (i + 1) (by omega) (by rw [hs, ← ge]; exact hb3 _ gl))
  refine ks_of (by decide) rfl rfl (Nat.le_of_ble_eq_true rfl) ?_
  show ks_X l G mX11_word d 0 [(0, .ref 0), (1, .int (nI k))] [] S _
  refine ks_iload_n dX11_word_0 rfl rfl ?_
  refine ks_if_ltN (tgt := 15) (by omega) dX11_word_1 (by decide) rfl ?_
  refine ks_iload_n dX11_word_4 rfl rfl ?_
  refine ks_aload_n dX11_word_5 rfl rfl ?_
  refine ks_getf (T := TX11) (kf := 0) kx_1053 rfl in_X11 cl_X11 (by decide) h0 rfl dX11_word_6 rfl ?_
  refine ks_getf (T := TX1) (kf := 1) kx_59 rfl in_X1 cl_X1 (by decide) e1 rfl dX11_word_9 rfl ?_
  refine ks_icmp_ltN (tgt := 23) (by omega) (by omega) dX11_word_12 (by decide) rfl (fun h2 => ?_) (fun h2 => absurd h2 (by omega))
  refine ks_lconst (x := lN 0) dX11_word_23 (by decide) rfl ?_
  refine ks_lstore_n dX11_word_24 (by decide) rfl ?_
  refine ks_sub [(2, _), (0, _), (1, _)] rfl ?_
  refine ks_iconst (x := nI 0) dX11_word_25 (by decide) rfl ?_
  refine ks_istore dX11_word_26 (by decide) rfl ?_
  refine ks_sub [(4, _), (0, _), (1, _), (2, _)] rfl ?_
  exact ks_sub [(0, _), (1, _), (2, _), (4, _)] rfl (loop 8 0 rfl (by show 0 < 1; decide))
set_option maxRecDepth 100000 in
set_option maxHeartbeats 800000 in
theorem c_jd_block0 {l : Launch} {G : ks_G} {d : Nat} {S : ks_S} {dc dp : Nat} {dt : Int64} {rs : Int32} (h0 : S.2.2 0 = some (jdO dc dp dt rs)) {n best : Nat} {cc : Int32} {tk : Int64} {B : Nat → Bk} (hX : chX S n best cc tk B) {x : Nat} (hx : x < n) (hh31 : bkH (B x) < 2 ^ 30) : ks_P l G yX11_block mX11_block (d + 3) [.ref 0, .int (nI x), .int (nI 0)] S (fun z S' => z = some (.long (lN (bkH (B x)))) ∧ S' = S) := by
  have h0 : S.2.2 0 = some (.inr (14, [.ref 1, .ref 3, .ref 5, .ref 7, .ref 14, .ref 20, .ref 27, .ref 41, .ref 52, .ref 53, .ref 54, .ref 55, .int (nI dc), .int (nI dp), .long dt, .int rs])) := h0
  obtain ⟨hO, ⟨bf, h42, hbf⟩, hB, hn60⟩ := id hX
  obtain ⟨g1x, f2x, g3x, g4x, ox, lex, egx, blx, stx, idx, hsx, cox⟩ := hB x (by omega)
  have b9 := blk_b blx
  refine ks_of (by decide) rfl rfl (Nat.le_of_ble_eq_true rfl) ?_
  show ks_X l G mX11_block (d + 3) 0 [(0, .ref 0), (1, .int (nI x)), (2, .int (nI 0))] [] S _
  refine ks_iload_n dX11_block_0 rfl rfl ?_
  refine ks_if_ltN (tgt := 15) (by omega) dX11_block_1 (by decide) rfl ?_
  refine ks_iload_n dX11_block_4 rfl rfl ?_
  refine ks_aload_n dX11_block_5 rfl rfl ?_
  refine ks_getf (T := TX11) (kf := 7) kx_1060 rfl in_X11 cl_X11 (by decide) h0 rfl dX11_block_6 rfl ?_
  refine ks_getf (T := TX2) (kf := 3) kx_736 rfl in_X2 cl_X2 (by decide) hO rfl dX11_block_9 rfl ?_
  refine ks_icmp_ltN (tgt := 23) (by omega) (by omega) dX11_block_12 (by decide) rfl (fun h2 => ?_) (fun h2 => absurd h2 (by omega))
  refine ks_aload_n dX11_block_23 rfl rfl ?_
  refine ks_getf (T := TX11) (kf := 7) kx_1060 rfl in_X11 cl_X11 (by decide) h0 rfl dX11_block_24 rfl ?_
  refine ks_getf (T := TX2) (kf := 0) kx_730 rfl in_X2 cl_X2 (by decide) hO rfl dX11_block_27 rfl ?_
  refine ks_iload_n dX11_block_30 rfl rfl ?_
  refine ks_aaldN (i := x) (b := (bkN (B x))) (by decide) h42 rfl (by omega) (by decide) (hbf x (by omega)) dX11_block_31 rfl ?_
  refine ks_astore_n dX11_block_32 (by decide) rfl ?_
  refine ks_sub [(3, _), (0, _), (1, _), (2, _)] rfl ?_
  refine ks_iload_n dX11_block_33 rfl rfl ?_
  refine ks_tableIn (off := 50) (tgt := 84) dX11_block_34 (by decide) (by decide) (by decide) (by decide) ?_
  refine ks_aload_n dX11_block_84 rfl rfl ?_
  refine ks_getf (T := TX0) (kf := 7) kx_955 rfl in_X0 cl_X0 (by decide) ox.1 rfl dX11_block_85 rfl ?_
  refine ks_i2lN (by omega) dX11_block_88 rfl ?_
  refine ks_lret rfl dX11_block_89 ?_
  exact ⟨rfl, rfl⟩
set_option maxRecDepth 100000 in
set_option maxHeartbeats 800000 in
theorem c_jd_block1 {l : Launch} {G : ks_G} {d : Nat} {S : ks_S} {dc dp : Nat} {dt : Int64} {rs : Int32} (h0 : S.2.2 0 = some (jdO dc dp dt rs)) {n best : Nat} {cc : Int32} {tk : Int64} {B : Nat → Bk} (hX : chX S n best cc tk B) {x : Nat} (hx : x < n) : ks_P l G yX11_block mX11_block (d + 3) [.ref 0, .int (nI x), .int (nI 1)] S (fun z S' => z = some (.long ((nI (bkP (B x)) - 1).toInt64)) ∧ S' = S) := by
  have h0 : S.2.2 0 = some (.inr (14, [.ref 1, .ref 3, .ref 5, .ref 7, .ref 14, .ref 20, .ref 27, .ref 41, .ref 52, .ref 53, .ref 54, .ref 55, .int (nI dc), .int (nI dp), .long dt, .int rs])) := h0
  obtain ⟨hO, ⟨bf, h42, hbf⟩, hB, hn60⟩ := id hX
  obtain ⟨g1x, f2x, g3x, g4x, ox, lex, egx, blx, stx, idx, hsx, cox⟩ := hB x (by omega)
  have b9 := blk_b blx
  refine ks_of (by decide) rfl rfl (Nat.le_of_ble_eq_true rfl) ?_
  show ks_X l G mX11_block (d + 3) 0 [(0, .ref 0), (1, .int (nI x)), (2, .int (nI 1))] [] S _
  refine ks_iload_n dX11_block_0 rfl rfl ?_
  refine ks_if_ltN (tgt := 15) (by omega) dX11_block_1 (by decide) rfl ?_
  refine ks_iload_n dX11_block_4 rfl rfl ?_
  refine ks_aload_n dX11_block_5 rfl rfl ?_
  refine ks_getf (T := TX11) (kf := 7) kx_1060 rfl in_X11 cl_X11 (by decide) h0 rfl dX11_block_6 rfl ?_
  refine ks_getf (T := TX2) (kf := 3) kx_736 rfl in_X2 cl_X2 (by decide) hO rfl dX11_block_9 rfl ?_
  refine ks_icmp_ltN (tgt := 23) (by omega) (by omega) dX11_block_12 (by decide) rfl (fun h2 => ?_) (fun h2 => absurd h2 (by omega))
  refine ks_aload_n dX11_block_23 rfl rfl ?_
  refine ks_getf (T := TX11) (kf := 7) kx_1060 rfl in_X11 cl_X11 (by decide) h0 rfl dX11_block_24 rfl ?_
  refine ks_getf (T := TX2) (kf := 0) kx_730 rfl in_X2 cl_X2 (by decide) hO rfl dX11_block_27 rfl ?_
  refine ks_iload_n dX11_block_30 rfl rfl ?_
  refine ks_aaldN (i := x) (b := (bkN (B x))) (by decide) h42 rfl (by omega) (by decide) (hbf x (by omega)) dX11_block_31 rfl ?_
  refine ks_astore_n dX11_block_32 (by decide) rfl ?_
  refine ks_sub [(3, _), (0, _), (1, _), (2, _)] rfl ?_
  refine ks_iload_n dX11_block_33 rfl rfl ?_
  refine ks_tableIn (off := 56) (tgt := 90) dX11_block_34 (by decide) (by decide) (by decide) (by decide) ?_
  refine ks_aload_n dX11_block_90 rfl rfl ?_
  refine ks_getf (T := TX0) (kf := 6) kx_953 rfl in_X0 cl_X0 (by decide) ox.1 rfl dX11_block_91 rfl ?_
  refine ks_i2l dX11_block_94 rfl ?_
  refine ks_lret rfl dX11_block_95 ?_
  exact ⟨rfl, rfl⟩
set_option maxRecDepth 100000 in
set_option maxHeartbeats 800000 in
theorem c_jd_block2 {l : Launch} {G : ks_G} {d : Nat} {S : ks_S} {dc dp : Nat} {dt : Int64} {rs : Int32} (h0 : S.2.2 0 = some (jdO dc dp dt rs)) {n best : Nat} {cc : Int32} {tk : Int64} {B : Nat → Bk} (hX : chX S n best cc tk B) {x : Nat} (hx : x < n) (hW : chW n B) (hbe : best < n) : ks_P l G yX11_block mX11_block (d + 3) [.ref 0, .int (nI x), .int (nI 2)] S (fun z S' => z = some (.long (lN (if bkD (B x) = true then 2 else if stL B x n best = x then 1 else 0))) ∧ S' = S) := by
  have h0 : S.2.2 0 = some (.inr (14, [.ref 1, .ref 3, .ref 5, .ref 7, .ref 14, .ref 20, .ref 27, .ref 41, .ref 52, .ref 53, .ref 54, .ref 55, .int (nI dc), .int (nI dp), .long dt, .int rs])) := h0
  obtain ⟨hO, ⟨bf, h42, hbf⟩, hB, hn60⟩ := id hX
  obtain ⟨g1x, f2x, g3x, g4x, ox, lex, egx, blx, stx, idx, hsx, cox⟩ := hB x (by omega)
  have b9 := blk_b blx
  refine ks_of (by decide) rfl rfl (Nat.le_of_ble_eq_true rfl) ?_
  show ks_X l G mX11_block (d + 3) 0 [(0, .ref 0), (1, .int (nI x)), (2, .int (nI 2))] [] S _
  refine ks_iload_n dX11_block_0 rfl rfl ?_
  refine ks_if_ltN (tgt := 15) (by omega) dX11_block_1 (by decide) rfl ?_
  refine ks_iload_n dX11_block_4 rfl rfl ?_
  refine ks_aload_n dX11_block_5 rfl rfl ?_
  refine ks_getf (T := TX11) (kf := 7) kx_1060 rfl in_X11 cl_X11 (by decide) h0 rfl dX11_block_6 rfl ?_
  refine ks_getf (T := TX2) (kf := 3) kx_736 rfl in_X2 cl_X2 (by decide) hO rfl dX11_block_9 rfl ?_
  refine ks_icmp_ltN (tgt := 23) (by omega) (by omega) dX11_block_12 (by decide) rfl (fun h2 => ?_) (fun h2 => absurd h2 (by omega))
  refine ks_aload_n dX11_block_23 rfl rfl ?_
  refine ks_getf (T := TX11) (kf := 7) kx_1060 rfl in_X11 cl_X11 (by decide) h0 rfl dX11_block_24 rfl ?_
  refine ks_getf (T := TX2) (kf := 0) kx_730 rfl in_X2 cl_X2 (by decide) hO rfl dX11_block_27 rfl ?_
  refine ks_iload_n dX11_block_30 rfl rfl ?_
  refine ks_aaldN (i := x) (b := (bkN (B x))) (by decide) h42 rfl (by omega) (by decide) (hbf x (by omega)) dX11_block_31 rfl ?_
  refine ks_astore_n dX11_block_32 (by decide) rfl ?_
  refine ks_sub [(3, _), (0, _), (1, _), (2, _)] rfl ?_
  refine ks_iload_n dX11_block_33 rfl rfl ?_
  refine ks_tableIn (off := 62) (tgt := 96) dX11_block_34 (by decide) (by decide) (by decide) (by decide) ?_
  refine ks_aload_n dX11_block_96 rfl rfl ?_
  refine ks_getf (T := TX11) (kf := 7) kx_1060 rfl in_X11 cl_X11 (by decide) h0 rfl dX11_block_97 rfl ?_
  refine ks_iload_n dX11_block_100 rfl rfl ?_
  refine ks_callV (n := 1) (M' := mX2_standing) (c_ch_standing (d := d + 2) hX hW hx hbe) hO cl_X2 rfl kx_1746 kx_1747 kx_1748 kx_26 kx_1749 (by decide +kernel) rfl (by decide) (Nat.le_of_ble_eq_true rfl) rfl dX11_block_101 rfl (fun z1 T1 y1 => ?_)
  obtain ⟨rfl, hT1⟩ := y1
  obtain rfl := hT1.symm
  have v3 : (if bkD (B x) = true then 2 else if stL B x n best = x then 1 else 0) < 3 := by
    split
    · decide
    · split <;> decide
  generalize (if bkD (B x) = true then 2 else if stL B x n best = x then 1 else 0) = vv at *
  refine ks_i2lN (by omega) dX11_block_104 rfl ?_
  refine ks_lret rfl dX11_block_105 ?_
  exact ⟨rfl, rfl⟩
set_option maxRecDepth 100000 in
set_option maxHeartbeats 800000 in
theorem c_jd_block3 {l : Launch} {G : ks_G} {d : Nat} {S : ks_S} {dc dp : Nat} {dt : Int64} {rs : Int32} (h0 : S.2.2 0 = some (jdO dc dp dt rs)) {n best : Nat} {cc : Int32} {tk : Int64} {B : Nat → Bk} (hX : chX S n best cc tk B) {x : Nat} (hx : x < n) : ks_P l G yX11_block mX11_block (d + 3) [.ref 0, .int (nI x), .int (nI 3)] S (fun z S' => z = some (.long (lN (tmB (bkM (B x))))) ∧ S' = S) := by
  have h0 : S.2.2 0 = some (.inr (14, [.ref 1, .ref 3, .ref 5, .ref 7, .ref 14, .ref 20, .ref 27, .ref 41, .ref 52, .ref 53, .ref 54, .ref 55, .int (nI dc), .int (nI dp), .long dt, .int rs])) := h0
  obtain ⟨hO, ⟨bf, h42, hbf⟩, hB, hn60⟩ := id hX
  obtain ⟨g1x, f2x, g3x, g4x, ox, lex, egx, blx, stx, idx, hsx, cox⟩ := hB x (by omega)
  have b9 := blk_b blx
  refine ks_of (by decide) rfl rfl (Nat.le_of_ble_eq_true rfl) ?_
  show ks_X l G mX11_block (d + 3) 0 [(0, .ref 0), (1, .int (nI x)), (2, .int (nI 3))] [] S _
  refine ks_iload_n dX11_block_0 rfl rfl ?_
  refine ks_if_ltN (tgt := 15) (by omega) dX11_block_1 (by decide) rfl ?_
  refine ks_iload_n dX11_block_4 rfl rfl ?_
  refine ks_aload_n dX11_block_5 rfl rfl ?_
  refine ks_getf (T := TX11) (kf := 7) kx_1060 rfl in_X11 cl_X11 (by decide) h0 rfl dX11_block_6 rfl ?_
  refine ks_getf (T := TX2) (kf := 3) kx_736 rfl in_X2 cl_X2 (by decide) hO rfl dX11_block_9 rfl ?_
  refine ks_icmp_ltN (tgt := 23) (by omega) (by omega) dX11_block_12 (by decide) rfl (fun h2 => ?_) (fun h2 => absurd h2 (by omega))
  refine ks_aload_n dX11_block_23 rfl rfl ?_
  refine ks_getf (T := TX11) (kf := 7) kx_1060 rfl in_X11 cl_X11 (by decide) h0 rfl dX11_block_24 rfl ?_
  refine ks_getf (T := TX2) (kf := 0) kx_730 rfl in_X2 cl_X2 (by decide) hO rfl dX11_block_27 rfl ?_
  refine ks_iload_n dX11_block_30 rfl rfl ?_
  refine ks_aaldN (i := x) (b := (bkN (B x))) (by decide) h42 rfl (by omega) (by decide) (hbf x (by omega)) dX11_block_31 rfl ?_
  refine ks_astore_n dX11_block_32 (by decide) rfl ?_
  refine ks_sub [(3, _), (0, _), (1, _), (2, _)] rfl ?_
  refine ks_iload_n dX11_block_33 rfl rfl ?_
  refine ks_tableIn (off := 72) (tgt := 106) dX11_block_34 (by decide) (by decide) (by decide) (by decide) ?_
  refine ks_aload_n dX11_block_106 rfl rfl ?_
  refine ks_callV (n := 0) (M' := mX0_time) (c_bk_time (d := d + 1) ox) ox.1 cl_X0 rfl kx_1750 kx_1397 kx_1398 kx_29 kx_1399 (by decide +kernel) rfl (by decide) (Nat.le_of_ble_eq_true rfl) rfl dX11_block_107 rfl (fun z1 T1 y1 => ?_)
  obtain ⟨rfl, hT1⟩ := y1
  obtain rfl := hT1.symm
  rw [bk_num (i := 68) (n := 4) egx (by omega)]
  refine ks_lret rfl dX11_block_110 ?_
  exact ⟨rfl, rfl⟩
set_option maxRecDepth 100000 in
set_option maxHeartbeats 800000 in
theorem c_jd_block4 {l : Launch} {G : ks_G} {d : Nat} {S : ks_S} {dc dp : Nat} {dt : Int64} {rs : Int32} (h0 : S.2.2 0 = some (jdO dc dp dt rs)) {n best : Nat} {cc : Int32} {tk : Int64} {B : Nat → Bk} (hX : chX S n best cc tk B) {x : Nat} (hx : x < n) (hbt : btB (bkM (B x)) < 2 ^ 31) : ks_P l G yX11_block mX11_block (d + 3) [.ref 0, .int (nI x), .int (nI 4)] S (fun z S' => z = some (.long (lN (btB (bkM (B x))))) ∧ S' = S) := by
  have h0 : S.2.2 0 = some (.inr (14, [.ref 1, .ref 3, .ref 5, .ref 7, .ref 14, .ref 20, .ref 27, .ref 41, .ref 52, .ref 53, .ref 54, .ref 55, .int (nI dc), .int (nI dp), .long dt, .int rs])) := h0
  obtain ⟨hO, ⟨bf, h42, hbf⟩, hB, hn60⟩ := id hX
  obtain ⟨g1x, f2x, g3x, g4x, ox, lex, egx, blx, stx, idx, hsx, cox⟩ := hB x (by omega)
  have b9 := blk_b blx
  refine ks_of (by decide) rfl rfl (Nat.le_of_ble_eq_true rfl) ?_
  show ks_X l G mX11_block (d + 3) 0 [(0, .ref 0), (1, .int (nI x)), (2, .int (nI 4))] [] S _
  refine ks_iload_n dX11_block_0 rfl rfl ?_
  refine ks_if_ltN (tgt := 15) (by omega) dX11_block_1 (by decide) rfl ?_
  refine ks_iload_n dX11_block_4 rfl rfl ?_
  refine ks_aload_n dX11_block_5 rfl rfl ?_
  refine ks_getf (T := TX11) (kf := 7) kx_1060 rfl in_X11 cl_X11 (by decide) h0 rfl dX11_block_6 rfl ?_
  refine ks_getf (T := TX2) (kf := 3) kx_736 rfl in_X2 cl_X2 (by decide) hO rfl dX11_block_9 rfl ?_
  refine ks_icmp_ltN (tgt := 23) (by omega) (by omega) dX11_block_12 (by decide) rfl (fun h2 => ?_) (fun h2 => absurd h2 (by omega))
  refine ks_aload_n dX11_block_23 rfl rfl ?_
  refine ks_getf (T := TX11) (kf := 7) kx_1060 rfl in_X11 cl_X11 (by decide) h0 rfl dX11_block_24 rfl ?_
  refine ks_getf (T := TX2) (kf := 0) kx_730 rfl in_X2 cl_X2 (by decide) hO rfl dX11_block_27 rfl ?_
  refine ks_iload_n dX11_block_30 rfl rfl ?_
  refine ks_aaldN (i := x) (b := (bkN (B x))) (by decide) h42 rfl (by omega) (by decide) (hbf x (by omega)) dX11_block_31 rfl ?_
  refine ks_astore_n dX11_block_32 (by decide) rfl ?_
  refine ks_sub [(3, _), (0, _), (1, _), (2, _)] rfl ?_
  refine ks_iload_n dX11_block_33 rfl rfl ?_
  refine ks_tableIn (off := 77) (tgt := 111) dX11_block_34 (by decide) (by decide) (by decide) (by decide) ?_
  refine ks_aload_n dX11_block_111 rfl rfl ?_
  refine ks_callV (n := 0) (M' := mX0_bits) (c_bk_bits (d := d + 1) ox) ox.1 cl_X0 rfl kx_1751 kx_1006 kx_1007 kx_29 kx_1008 (by decide +kernel) rfl (by decide) (Nat.le_of_ble_eq_true rfl) rfl dX11_block_112 rfl (fun z1 T1 y1 => ?_)
  obtain ⟨rfl, hT1⟩ := y1
  obtain rfl := hT1.symm
  rw [bk_num (i := 72) (n := 4) egx (by omega), show ks_num (mg (bkM (B x))) 72 4 = btB (bkM (B x)) from rfl]
  refine ks_i2lN (by omega) dX11_block_115 rfl ?_
  refine ks_ldc2 dX11_block_116 kx_832 rfl ?_
  refine ks_tl (y := lN 4294967295) rfl ?_
  refine ks_landN (k := 32) (p := 4294967296) (by decide) (by decide) (by decide) (by omega) dX11_block_119 rfl ?_
  refine ks_lret rfl dX11_block_120 ?_
  rw [Nat.mod_eq_of_lt (by omega)]
  exact ⟨rfl, rfl⟩
set_option maxRecDepth 100000 in
set_option maxHeartbeats 800000 in
theorem c_jd_block5 {l : Launch} {G : ks_G} {d : Nat} {S : ks_S} {dc dp : Nat} {dt : Int64} {rs : Int32} (h0 : S.2.2 0 = some (jdO dc dp dt rs)) {n best : Nat} {cc : Int32} {tk : Int64} {B : Nat → Bk} (hX : chX S n best cc tk B) {x : Nat} (hx : x < n) : ks_P l G yX11_block mX11_block (d + 3) [.ref 0, .int (nI x), .int (nI 5)] S (fun z S' => z = some (.long (lN (mg (bkM (B x)) 80))) ∧ S' = S) := by
  have h0 : S.2.2 0 = some (.inr (14, [.ref 1, .ref 3, .ref 5, .ref 7, .ref 14, .ref 20, .ref 27, .ref 41, .ref 52, .ref 53, .ref 54, .ref 55, .int (nI dc), .int (nI dp), .long dt, .int rs])) := h0
  obtain ⟨hO, ⟨bf, h42, hbf⟩, hB, hn60⟩ := id hX
  obtain ⟨g1x, f2x, g3x, g4x, ox, lex, egx, blx, stx, idx, hsx, cox⟩ := hB x (by omega)
  have b9 := blk_b blx
  refine ks_of (by decide) rfl rfl (Nat.le_of_ble_eq_true rfl) ?_
  show ks_X l G mX11_block (d + 3) 0 [(0, .ref 0), (1, .int (nI x)), (2, .int (nI 5))] [] S _
  refine ks_iload_n dX11_block_0 rfl rfl ?_
  refine ks_if_ltN (tgt := 15) (by omega) dX11_block_1 (by decide) rfl ?_
  refine ks_iload_n dX11_block_4 rfl rfl ?_
  refine ks_aload_n dX11_block_5 rfl rfl ?_
  refine ks_getf (T := TX11) (kf := 7) kx_1060 rfl in_X11 cl_X11 (by decide) h0 rfl dX11_block_6 rfl ?_
  refine ks_getf (T := TX2) (kf := 3) kx_736 rfl in_X2 cl_X2 (by decide) hO rfl dX11_block_9 rfl ?_
  refine ks_icmp_ltN (tgt := 23) (by omega) (by omega) dX11_block_12 (by decide) rfl (fun h2 => ?_) (fun h2 => absurd h2 (by omega))
  refine ks_aload_n dX11_block_23 rfl rfl ?_
  refine ks_getf (T := TX11) (kf := 7) kx_1060 rfl in_X11 cl_X11 (by decide) h0 rfl dX11_block_24 rfl ?_
  refine ks_getf (T := TX2) (kf := 0) kx_730 rfl in_X2 cl_X2 (by decide) hO rfl dX11_block_27 rfl ?_
  refine ks_iload_n dX11_block_30 rfl rfl ?_
  refine ks_aaldN (i := x) (b := (bkN (B x))) (by decide) h42 rfl (by omega) (by decide) (hbf x (by omega)) dX11_block_31 rfl ?_
  refine ks_astore_n dX11_block_32 (by decide) rfl ?_
  refine ks_sub [(3, _), (0, _), (1, _), (2, _)] rfl ?_
  refine ks_iload_n dX11_block_33 rfl rfl ?_
  refine ks_tableIn (off := 87) (tgt := 121) dX11_block_34 (by decide) (by decide) (by decide) (by decide) ?_
  refine ks_aload_n dX11_block_121 rfl rfl ?_
  refine ks_getf (T := TX0) (kf := 5) kx_950 rfl in_X0 cl_X0 (by decide) ox.1 rfl dX11_block_122 rfl ?_
  refine ks_i2lN (by omega) dX11_block_125 rfl ?_
  refine ks_lret rfl dX11_block_126 ?_
  exact ⟨rfl, rfl⟩
set_option maxRecDepth 100000 in
set_option maxHeartbeats 800000 in
theorem c_jd_block6 {l : Launch} {G : ks_G} {d : Nat} {S : ks_S} {dc dp : Nat} {dt : Int64} {rs : Int32} (h0 : S.2.2 0 = some (jdO dc dp dt rs)) {n best : Nat} {cc : Int32} {tk : Int64} {B : Nat → Bk} (hX : chX S n best cc tk B) {x : Nat} (hx : x < n) : ks_P l G yX11_block mX11_block (d + 3) [.ref 0, .int (nI x), .int (nI 6)] S (fun z S' => z = some (.long (lN (bkM (B x)).length)) ∧ S' = S) := by
  have h0 : S.2.2 0 = some (.inr (14, [.ref 1, .ref 3, .ref 5, .ref 7, .ref 14, .ref 20, .ref 27, .ref 41, .ref 52, .ref 53, .ref 54, .ref 55, .int (nI dc), .int (nI dp), .long dt, .int rs])) := h0
  obtain ⟨hO, ⟨bf, h42, hbf⟩, hB, hn60⟩ := id hX
  obtain ⟨g1x, f2x, g3x, g4x, ox, lex, egx, blx, stx, idx, hsx, cox⟩ := hB x (by omega)
  have b9 := blk_b blx
  refine ks_of (by decide) rfl rfl (Nat.le_of_ble_eq_true rfl) ?_
  show ks_X l G mX11_block (d + 3) 0 [(0, .ref 0), (1, .int (nI x)), (2, .int (nI 6))] [] S _
  refine ks_iload_n dX11_block_0 rfl rfl ?_
  refine ks_if_ltN (tgt := 15) (by omega) dX11_block_1 (by decide) rfl ?_
  refine ks_iload_n dX11_block_4 rfl rfl ?_
  refine ks_aload_n dX11_block_5 rfl rfl ?_
  refine ks_getf (T := TX11) (kf := 7) kx_1060 rfl in_X11 cl_X11 (by decide) h0 rfl dX11_block_6 rfl ?_
  refine ks_getf (T := TX2) (kf := 3) kx_736 rfl in_X2 cl_X2 (by decide) hO rfl dX11_block_9 rfl ?_
  refine ks_icmp_ltN (tgt := 23) (by omega) (by omega) dX11_block_12 (by decide) rfl (fun h2 => ?_) (fun h2 => absurd h2 (by omega))
  refine ks_aload_n dX11_block_23 rfl rfl ?_
  refine ks_getf (T := TX11) (kf := 7) kx_1060 rfl in_X11 cl_X11 (by decide) h0 rfl dX11_block_24 rfl ?_
  refine ks_getf (T := TX2) (kf := 0) kx_730 rfl in_X2 cl_X2 (by decide) hO rfl dX11_block_27 rfl ?_
  refine ks_iload_n dX11_block_30 rfl rfl ?_
  refine ks_aaldN (i := x) (b := (bkN (B x))) (by decide) h42 rfl (by omega) (by decide) (hbf x (by omega)) dX11_block_31 rfl ?_
  refine ks_astore_n dX11_block_32 (by decide) rfl ?_
  refine ks_sub [(3, _), (0, _), (1, _), (2, _)] rfl ?_
  refine ks_iload_n dX11_block_33 rfl rfl ?_
  refine ks_tableIn (off := 93) (tgt := 127) dX11_block_34 (by decide) (by decide) (by decide) (by decide) ?_
  refine ks_aload_n dX11_block_127 rfl rfl ?_
  refine ks_getf (T := TX0) (kf := 4) kx_947 rfl in_X0 cl_X0 (by decide) ox.1 rfl dX11_block_128 rfl ?_
  refine ks_i2lN (by omega) dX11_block_131 rfl ?_
  refine ks_lret rfl dX11_block_132 ?_
  exact ⟨rfl, rfl⟩
set_option maxRecDepth 100000 in
set_option maxHeartbeats 800000 in
theorem c_jd_block7 {l : Launch} {G : ks_G} {d : Nat} {S : ks_S} {dc dp : Nat} {dt : Int64} {rs : Int32} (h0 : S.2.2 0 = some (jdO dc dp dt rs)) {n best : Nat} {cc : Int32} {tk : Int64} {B : Nat → Bk} (hX : chX S n best cc tk B) {x : Nat} (hx : x < n) : ks_P l G yX11_block mX11_block (d + 3) [.ref 0, .int (nI x), .int (nI 7)] S (fun z S' => z = some (.long (lN (bkW (B x)))) ∧ S' = S) := by
  have h0 : S.2.2 0 = some (.inr (14, [.ref 1, .ref 3, .ref 5, .ref 7, .ref 14, .ref 20, .ref 27, .ref 41, .ref 52, .ref 53, .ref 54, .ref 55, .int (nI dc), .int (nI dp), .long dt, .int rs])) := h0
  obtain ⟨hO, ⟨bf, h42, hbf⟩, hB, hn60⟩ := id hX
  obtain ⟨g1x, f2x, g3x, g4x, ox, lex, egx, blx, stx, idx, hsx, cox⟩ := hB x (by omega)
  have b9 := blk_b blx
  refine ks_of (by decide) rfl rfl (Nat.le_of_ble_eq_true rfl) ?_
  show ks_X l G mX11_block (d + 3) 0 [(0, .ref 0), (1, .int (nI x)), (2, .int (nI 7))] [] S _
  refine ks_iload_n dX11_block_0 rfl rfl ?_
  refine ks_if_ltN (tgt := 15) (by omega) dX11_block_1 (by decide) rfl ?_
  refine ks_iload_n dX11_block_4 rfl rfl ?_
  refine ks_aload_n dX11_block_5 rfl rfl ?_
  refine ks_getf (T := TX11) (kf := 7) kx_1060 rfl in_X11 cl_X11 (by decide) h0 rfl dX11_block_6 rfl ?_
  refine ks_getf (T := TX2) (kf := 3) kx_736 rfl in_X2 cl_X2 (by decide) hO rfl dX11_block_9 rfl ?_
  refine ks_icmp_ltN (tgt := 23) (by omega) (by omega) dX11_block_12 (by decide) rfl (fun h2 => ?_) (fun h2 => absurd h2 (by omega))
  refine ks_aload_n dX11_block_23 rfl rfl ?_
  refine ks_getf (T := TX11) (kf := 7) kx_1060 rfl in_X11 cl_X11 (by decide) h0 rfl dX11_block_24 rfl ?_
  refine ks_getf (T := TX2) (kf := 0) kx_730 rfl in_X2 cl_X2 (by decide) hO rfl dX11_block_27 rfl ?_
  refine ks_iload_n dX11_block_30 rfl rfl ?_
  refine ks_aaldN (i := x) (b := (bkN (B x))) (by decide) h42 rfl (by omega) (by decide) (hbf x (by omega)) dX11_block_31 rfl ?_
  refine ks_astore_n dX11_block_32 (by decide) rfl ?_
  refine ks_sub [(3, _), (0, _), (1, _), (2, _)] rfl ?_
  refine ks_iload_n dX11_block_33 rfl rfl ?_
  refine ks_tableIn (off := 99) (tgt := 133) dX11_block_34 (by decide) (by decide) (by decide) (by decide) ?_
  refine ks_aload_n dX11_block_133 rfl rfl ?_
  refine ks_getf (T := TX0) (kf := 8) kx_957 rfl in_X0 cl_X0 (by decide) ox.1 rfl dX11_block_134 rfl ?_
  refine ks_lret rfl dX11_block_137 ?_
  exact ⟨rfl, rfl⟩
set_option maxRecDepth 100000 in
set_option maxHeartbeats 800000 in
theorem c_jd_block8 {l : Launch} {G : ks_G} {d : Nat} {S : ks_S} {dc dp : Nat} {dt : Int64} {rs : Int32} (h0 : S.2.2 0 = some (jdO dc dp dt rs)) {n best : Nat} {cc : Int32} {tk : Int64} {B : Nat → Bk} (hX : chX S n best cc tk B) {x : Nat} (hx : x < n) {f0 : Nat → Nat} (hW : chW n B) (h48 : S.2.2 48 = some (kL 11 f0)) : ks_P l G yX11_block mX11_block (d + 3) [.ref 0, .int (nI x), .int (nI 8)] S (fun z S' => z = some (.long (lN (mdF B x))) ∧ ks_up S S' [48] ∧ ∃ f, S'.2.2 48 = some (kL 11 f)) := by
  have h0 : S.2.2 0 = some (.inr (14, [.ref 1, .ref 3, .ref 5, .ref 7, .ref 14, .ref 20, .ref 27, .ref 41, .ref 52, .ref 53, .ref 54, .ref 55, .int (nI dc), .int (nI dp), .long dt, .int rs])) := h0
  obtain ⟨hO, ⟨bf, h42, hbf⟩, hB, hn60⟩ := id hX
  obtain ⟨g1x, f2x, g3x, g4x, ox, lex, egx, blx, stx, idx, hsx, cox⟩ := hB x (by omega)
  have b9 := blk_b blx
  refine ks_of (by decide) rfl rfl (Nat.le_of_ble_eq_true rfl) ?_
  show ks_X l G mX11_block (d + 3) 0 [(0, .ref 0), (1, .int (nI x)), (2, .int (nI 8))] [] S _
  refine ks_iload_n dX11_block_0 rfl rfl ?_
  refine ks_if_ltN (tgt := 15) (by omega) dX11_block_1 (by decide) rfl ?_
  refine ks_iload_n dX11_block_4 rfl rfl ?_
  refine ks_aload_n dX11_block_5 rfl rfl ?_
  refine ks_getf (T := TX11) (kf := 7) kx_1060 rfl in_X11 cl_X11 (by decide) h0 rfl dX11_block_6 rfl ?_
  refine ks_getf (T := TX2) (kf := 3) kx_736 rfl in_X2 cl_X2 (by decide) hO rfl dX11_block_9 rfl ?_
  refine ks_icmp_ltN (tgt := 23) (by omega) (by omega) dX11_block_12 (by decide) rfl (fun h2 => ?_) (fun h2 => absurd h2 (by omega))
  refine ks_aload_n dX11_block_23 rfl rfl ?_
  refine ks_getf (T := TX11) (kf := 7) kx_1060 rfl in_X11 cl_X11 (by decide) h0 rfl dX11_block_24 rfl ?_
  refine ks_getf (T := TX2) (kf := 0) kx_730 rfl in_X2 cl_X2 (by decide) hO rfl dX11_block_27 rfl ?_
  refine ks_iload_n dX11_block_30 rfl rfl ?_
  refine ks_aaldN (i := x) (b := (bkN (B x))) (by decide) h42 rfl (by omega) (by decide) (hbf x (by omega)) dX11_block_31 rfl ?_
  refine ks_astore_n dX11_block_32 (by decide) rfl ?_
  refine ks_sub [(3, _), (0, _), (1, _), (2, _)] rfl ?_
  refine ks_iload_n dX11_block_33 rfl rfl ?_
  refine ks_tableIn (off := 104) (tgt := 138) dX11_block_34 (by decide) (by decide) (by decide) (by decide) ?_
  refine ks_aload_n dX11_block_138 rfl rfl ?_
  refine ks_getf (T := TX11) (kf := 7) kx_1060 rfl in_X11 cl_X11 (by decide) h0 rfl dX11_block_139 rfl ?_
  refine ks_iload_n dX11_block_142 rfl rfl ?_
  refine ks_callV (n := 1) (M' := mX2_middle) (c_ch_middle (d := d) hX hW hx h48) hO cl_X2 rfl kx_1752 kx_1442 kx_1443 kx_26 kx_1444 (by decide +kernel) rfl (by decide) (Nat.le_of_ble_eq_true rfl) rfl dX11_block_143 rfl (fun z1 T1 y1 => ?_)
  obtain ⟨rfl, w1, q1⟩ := y1
  refine ks_lret rfl dX11_block_146 ?_
  exact ⟨rfl, w1, q1⟩
set_option maxRecDepth 100000 in
set_option maxHeartbeats 800000 in
theorem c_jd_has {l : Launch} {G : ks_G} {d : Nat} {S : ks_S} {dc dp : Nat} {dt : Int64} {rs : Int32} (h0 : S.2.2 0 = some (jdO dc dp dt rs)) {n best : Nat} {cc : Int32} {tk : Int64} {B : Nat → Bk} (hX : chX S n best cc tk B) {x : Nat} (hx : x < n) {t : Nat} (ht : t < 2 ^ 31) : ks_P l G yX11_hasTransaction mX11_hasTransaction d [.ref 0, .int (nI x), .int (nI t)] S (fun z S' => z = some (.int (ks_bo (decide (t < mg (bkM (B x)) 80)))) ∧ S' = S) := by
  have h0 : S.2.2 0 = some (.inr (14, [.ref 1, .ref 3, .ref 5, .ref 7, .ref 14, .ref 20, .ref 27, .ref 41, .ref 52, .ref 53, .ref 54, .ref 55, .int (nI dc), .int (nI dp), .long dt, .int rs])) := h0
  obtain ⟨hO, ⟨bf, h42, hbf⟩, hB, hn60⟩ := id hX
  obtain ⟨g1x, f2x, g3x, g4x, ox, lex, egx, blx, stx, idx, hsx, cox⟩ := hB x (by omega)
  have b9 := blk_b blx
  refine ks_of (by decide) rfl rfl (Nat.le_of_ble_eq_true rfl) ?_
  show ks_X l G mX11_hasTransaction d 0 [(0, .ref 0), (1, .int (nI x)), (2, .int (nI t))] [] S _
  refine ks_iload_n dX11_hasTransaction_0 rfl rfl ?_
  refine ks_if_ltN (tgt := 15) (by omega) dX11_hasTransaction_1 (by decide) rfl ?_
  refine ks_iload_n dX11_hasTransaction_4 rfl rfl ?_
  refine ks_aload_n dX11_hasTransaction_5 rfl rfl ?_
  refine ks_getf (T := TX11) (kf := 7) kx_1060 rfl in_X11 cl_X11 (by decide) h0 rfl dX11_hasTransaction_6 rfl ?_
  refine ks_getf (T := TX2) (kf := 3) kx_736 rfl in_X2 cl_X2 (by decide) hO rfl dX11_hasTransaction_9 rfl ?_
  refine ks_icmp_ltN (tgt := 17) (by omega) (by omega) dX11_hasTransaction_12 (by decide) rfl (fun h2 => ?_) (fun h2 => absurd h2 (by omega))
  refine ks_iload_n dX11_hasTransaction_17 rfl rfl ?_
  refine ks_iload_n dX11_hasTransaction_18 rfl rfl ?_
  refine ks_if_geN (tgt := 29) (by omega) dX11_hasTransaction_19 (by decide) ?_
  refine ks_aload_n dX11_hasTransaction_29 rfl rfl ?_
  refine ks_getf (T := TX11) (kf := 7) kx_1060 rfl in_X11 cl_X11 (by decide) h0 rfl dX11_hasTransaction_30 rfl ?_
  refine ks_getf (T := TX2) (kf := 0) kx_730 rfl in_X2 cl_X2 (by decide) hO rfl dX11_hasTransaction_33 rfl ?_
  refine ks_iload_n dX11_hasTransaction_36 rfl rfl ?_
  refine ks_aaldN (i := x) (b := (bkN (B x))) (by decide) h42 rfl (by omega) (by decide) (hbf x (by omega)) dX11_hasTransaction_37 rfl ?_
  refine ks_getf (T := TX0) (kf := 5) kx_950 rfl in_X0 cl_X0 (by decide) ox.1 rfl dX11_hasTransaction_38 rfl ?_
  refine ks_icmp_geN (tgt := 48) (by omega) (by omega) dX11_hasTransaction_41 (by decide) rfl (fun h4 => ?_) (fun h4 => ?_)
  · refine ks_iconst (x := nI 0) dX11_hasTransaction_48 (by decide) rfl ?_
    refine ks_zret rfl rfl dX11_hasTransaction_49 ?_
    refine ⟨congrArg some (congrArg Value.int ?_), rfl⟩
    rw [show decide (t < mg (bkM (B x)) 80) = false from decide_eq_false (by omega)]
    rfl
  · refine ks_iconst (x := nI 1) dX11_hasTransaction_44 (by decide) rfl ?_
    refine ks_goto (tgt := 49) dX11_hasTransaction_45 (by decide) ?_
    refine ks_zret rfl rfl dX11_hasTransaction_49 ?_
    refine ⟨congrArg some (congrArg Value.int ?_), rfl⟩
    rw [show decide (t < mg (bkM (B x)) 80) = true from decide_eq_true (by omega)]
    rfl
set_option maxRecDepth 100000 in
set_option maxHeartbeats 800000 in
theorem c_jd_hasD {l : Launch} {G : ks_G} {d : Nat} {S : ks_S} {dc dp : Nat} {dt : Int64} {rs : Int32} (h0 : S.2.2 0 = some (jdO dc dp dt rs)) {n best : Nat} {cc : Int32} {tk : Int64} {B : Nat → Bk} (hX : chX S n best cc tk B) {t : Nat} (ht : t < 2 ^ 31) (hdc : dc ≤ 12) : ks_P l G yX11_hasTransaction mX11_hasTransaction d [.ref 0, .int (-2), .int (nI t)] S (fun z S' => z = some (.int (ks_bo (decide (t < dc)))) ∧ S' = S) := by
  have h0 : S.2.2 0 = some (.inr (14, [.ref 1, .ref 3, .ref 5, .ref 7, .ref 14, .ref 20, .ref 27, .ref 41, .ref 52, .ref 53, .ref 54, .ref 55, .int (nI dc), .int (nI dp), .long dt, .int rs])) := h0
  obtain ⟨hO, ⟨bf, h42, hbf⟩, hB, hn60⟩ := id hX
  refine ks_of (by decide) rfl rfl (Nat.le_of_ble_eq_true rfl) ?_
  show ks_X l G mX11_hasTransaction d 0 [(0, .ref 0), (1, .int (-2)), (2, .int (nI t))] [] S _
  refine ks_iload_n dX11_hasTransaction_0 rfl rfl ?_
  refine ks_if_ltN (tgt := 15) (by omega) dX11_hasTransaction_1 (by decide) rfl ?_
  refine ks_iload_n dX11_hasTransaction_4 rfl rfl ?_
  refine ks_aload_n dX11_hasTransaction_5 rfl rfl ?_
  refine ks_getf (T := TX11) (kf := 7) kx_1060 rfl in_X11 cl_X11 (by decide) h0 rfl dX11_hasTransaction_6 rfl ?_
  refine ks_getf (T := TX2) (kf := 3) kx_736 rfl in_X2 cl_X2 (by decide) hO rfl dX11_hasTransaction_9 rfl ?_
  refine ks_icmp_lt (tgt := 17) dX11_hasTransaction_12 (by decide) rfl (fun _ => ?_) (fun h => absurd (Int32.lt_of_lt_of_le (by decide : (-2 : Int32) < 0) (nI_nn (by omega : n < 2 ^ 31))) h)
  refine ks_iload_n dX11_hasTransaction_17 rfl rfl ?_
  refine ks_iload_n dX11_hasTransaction_18 rfl rfl ?_
  refine ks_if_ge (tgt := 29) dX11_hasTransaction_19 (by decide) rfl (fun h => absurd h (by decide)) (fun _ => ?_)
  refine ks_aload_n dX11_hasTransaction_22 rfl rfl ?_
  refine ks_getf (T := TX11) (kf := 12) kx_1065 rfl in_X11 cl_X11 (by decide) h0 rfl dX11_hasTransaction_23 rfl ?_
  refine ks_goto (tgt := 41) dX11_hasTransaction_26 (by decide) ?_
  refine ks_icmp_geN (tgt := 48) (by omega) (by omega) dX11_hasTransaction_41 (by decide) rfl (fun h4 => ?_) (fun h4 => ?_)
  · refine ks_iconst (x := nI 0) dX11_hasTransaction_48 (by decide) rfl ?_
    refine ks_zret rfl rfl dX11_hasTransaction_49 ?_
    refine ⟨congrArg some (congrArg Value.int ?_), rfl⟩
    rw [show decide (t < dc) = false from decide_eq_false (by omega)]
    rfl
  · refine ks_iconst (x := nI 1) dX11_hasTransaction_44 (by decide) rfl ?_
    refine ks_goto (tgt := 49) dX11_hasTransaction_45 (by decide) ?_
    refine ks_zret rfl rfl dX11_hasTransaction_49 ?_
    refine ⟨congrArg some (congrArg Value.int ?_), rfl⟩
    rw [show decide (t < dc) = true from decide_eq_true (by omega)]
    rfl
set_option maxRecDepth 100000 in
set_option maxHeartbeats 800000 in
theorem c_jd_coins {l : Launch} {G : ks_G} {d : Nat} {S : ks_S} {dc dp : Nat} {dt : Int64} {rs : Int32} (h0 : S.2.2 0 = some (jdO dc dp dt rs)) {n best : Nat} {cc : Int32} {tk : Int64} {B : Nat → Bk} (hX : chX S n best cc tk B) {r : Nat} {L : List Nat} (hbe : best < n) (hc : bkC (B best) = some (r, L)) (hL : ∀ i, i < L.length → cnR n B (L.getD i 0)) : ks_P l G yX11_coins mX11_coins (d + 3) [.ref 0] S (fun z S' => z = some (.long (lN (cnS B L L.length))) ∧ S' = S) := by
  have h0 : S.2.2 0 = some (.inr (14, [.ref 1, .ref 3, .ref 5, .ref 7, .ref 14, .ref 20, .ref 27, .ref 41, .ref 52, .ref 53, .ref 54, .ref 55, .int (nI dc), .int (nI dp), .long dt, .int rs])) := h0
  obtain ⟨hO, ⟨bf, h42, hbf⟩, hB, hn60⟩ := id hX
  refine ks_of (by decide) rfl rfl (Nat.le_of_ble_eq_true rfl) ?_
  show ks_X l G mX11_coins (d + 3) 0 [(0, .ref 0)] [] S _
  refine ks_aload_n dX11_coins_0 rfl rfl ?_
  refine ks_getf (T := TX11) (kf := 7) kx_1060 rfl in_X11 cl_X11 (by decide) h0 rfl dX11_coins_1 rfl ?_
  refine ks_callV (n := 0) (M' := mX2_allValues) (c_ch_allValues (d := d) hX hbe hc hL) hO cl_X2 rfl kx_1106 kx_1107 kx_1108 kx_26 kx_1109 (by decide +kernel) rfl (by decide) (Nat.le_of_ble_eq_true rfl) rfl dX11_coins_4 rfl (fun z1 T1 y1 => ?_)
  obtain ⟨rfl, hT1⟩ := y1
  obtain rfl := hT1.symm
  refine ks_lret rfl dX11_coins_7 ?_
  exact ⟨rfl, rfl⟩
set_option maxRecDepth 100000 in
set_option maxHeartbeats 800000 in
theorem c_jd_coin {l : Launch} {G : ks_G} {d : Nat} {S : ks_S} {dc dp : Nat} {dt : Int64} {rs : Int32} (h0 : S.2.2 0 = some (jdO dc dp dt rs)) {n best : Nat} {cc : Int32} {tk : Int64} {B : Nat → Bk} (hX : chX S n best cc tk B) {r : Nat} {L : List Nat} (hbe : best < n) (hc : bkC (B best) = some (r, L)) (hL : ∀ i, i < L.length → cnR n B (L.getD i 0)) {x t : Nat} {ix : Int32} (hx : x < n) (ht : t < mg (bkM (B x)) 80) : ks_P l G yX11_coin mX11_coin (d + 3) [.ref 0, .int (nI x), .int (nI t), .int ix] S (fun z S' => z = some (.long (if plD (fun i => cnIs B ix (idB (bkM (B x)) t) (L.getD i 0)) L.length 0 = 0 then -1 else lN (cnV B (L.getD (plD (fun i => cnIs B ix (idB (bkM (B x)) t) (L.getD i 0)) L.length 0 - 1) 0)))) ∧ S' = S) := by
  have h0j := h0
  have h0 : S.2.2 0 = some (.inr (14, [.ref 1, .ref 3, .ref 5, .ref 7, .ref 14, .ref 20, .ref 27, .ref 41, .ref 52, .ref 53, .ref 54, .ref 55, .int (nI dc), .int (nI dp), .long dt, .int rs])) := h0
  obtain ⟨hO, ⟨bf, h42, hbf⟩, hB, hn60⟩ := id hX
  obtain ⟨g1x, f2x, g3x, g4x, ox, lex, egx, blx, stx, idx, hsx, cox⟩ := hB x (by omega)
  have b9 := blk_b blx
  refine ks_of (by decide) rfl rfl (Nat.le_of_ble_eq_true rfl) ?_
  show ks_X l G mX11_coin (d + 3) 0 [(0, .ref 0), (1, .int (nI x)), (2, .int (nI t)), (3, .int ix)] [] S _
  refine ks_iload_n dX11_coin_0 rfl rfl ?_
  refine ks_if_ltN (tgt := 13) (by omega) dX11_coin_1 (by decide) rfl ?_
  refine ks_aload_n dX11_coin_4 rfl rfl ?_
  refine ks_iload_n dX11_coin_5 rfl rfl ?_
  refine ks_iload_n dX11_coin_6 rfl rfl ?_
  refine ks_callV (n := 2) (M' := mX11_hasTransaction) (c_jd_has (d := d + 2) h0j hX hx (by omega)) h0 cl_X11 rfl kx_1277 kx_1279 kxp_21 kx_1 kx_1280 (by decide +kernel) rfl (by decide) (Nat.le_of_ble_eq_true rfl) rfl dX11_coin_7 rfl (fun z1 T1 y1 => ?_)
  obtain ⟨rfl, hT1⟩ := y1
  obtain rfl := hT1.symm
  rw [decide_eq_true ht]
  refine ks_if_neZ (tgt := 21) dX11_coin_10 (by decide) rfl (fun _ => ?_) (fun h => absurd h (by decide))
  refine ks_aload_n dX11_coin_21 rfl rfl ?_
  refine ks_getf (T := TX11) (kf := 7) kx_1060 rfl in_X11 cl_X11 (by decide) h0 rfl dX11_coin_22 rfl ?_
  refine ks_aload_n dX11_coin_25 rfl rfl ?_
  refine ks_getf (T := TX11) (kf := 7) kx_1060 rfl in_X11 cl_X11 (by decide) h0 rfl dX11_coin_26 rfl ?_
  refine ks_getf (T := TX2) (kf := 0) kx_730 rfl in_X2 cl_X2 (by decide) hO rfl dX11_coin_29 rfl ?_
  refine ks_iload_n dX11_coin_32 rfl rfl ?_
  refine ks_aaldN (i := x) (b := (bkN (B x))) (by decide) h42 rfl (by omega) (by decide) (hbf x (by omega)) dX11_coin_33 rfl ?_
  refine ks_getf (T := TX0) (kf := 2) kx_940 rfl in_X0 cl_X0 (by decide) ox.1 rfl dX11_coin_34 rfl ?_
  refine ks_bipush (x := nI 32) dX11_coin_37 (by decide) rfl ?_
  refine ks_iload_n dX11_coin_39 rfl rfl ?_
  refine ks_mulN dX11_coin_40 rfl ?_
  refine ks_iload_n dX11_coin_41 rfl rfl ?_
  refine ks_callV (n := 3) (M' := mX2_valueOf) (c_ch_valueOf (d := d) (at_ := 32 * t) hX hbe hc hL ox.2.2.2.1 ox.2.2.2.2.2.2.1 (by decide) (by omega)) hO cl_X2 rfl kx_1760 kx_1761 kx_1762 kx_26 kx_1763 (by decide +kernel) rfl (by decide) (Nat.le_of_ble_eq_true rfl) rfl dX11_coin_42 rfl (fun z2 T2 y2 => ?_)
  obtain ⟨rfl, hT2⟩ := y2
  obtain rfl := hT2.symm
  have ei : ∀ i, cnIs B ix (fun j => g3x (32 * t + j)) (L.getD i 0) = cnIs B ix (idB (bkM (B x)) t) (L.getD i 0) := fun i => by
    unfold cnIs
    rw [sm32_c (h := fun j => g3x (32 * t + j)) (b := 0) (g2 := idB (bkM (B (L.getD i 0 / 2 ^ 23))) (L.getD i 0 / 2 ^ 19 % 16)) (a2 := 0) (h2 := idB (bkM (B x)) t) (b2 := 0) (fun j _ => rfl) (fun j hj => by rw [Nat.zero_add]; exact idx t ht j hj)]
  simp only [ei]
  refine ks_lret rfl dX11_coin_45 ?_
  exact ⟨rfl, rfl⟩
