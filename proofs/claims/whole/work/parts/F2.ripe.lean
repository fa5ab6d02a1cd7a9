/-! THE REFERENCE: RIPE -/
theorem le4_raw {a b c e : Nat} (ha : a < 256) (hb : b < 256) (hc : c < 256) (he : e < 256) : ((nI a ||| (nI b <<< (nI 8 &&& 31))) ||| (nI c <<< (nI 16 &&& 31))) ||| (nI e <<< (nI 24 &&& 31)) = nI (a + 256 * (b + 256 * (c + 256 * (e + 256 * 0)))) := by
  rw [pk_shlN (nI 24 &&& 31) 24 (by decide) (by omega), pk_shlN (nI 16 &&& 31) 16 (by decide) (by omega), pk_shlN (nI 8 &&& 31) 8 (by decide) (by omega)]
  rw [Int32.or_comm (nI a), ks_orN (k := 8) ⟨b, by omega⟩ (by omega), Int32.or_comm (nI _) (nI (c * _)), ks_orN (k := 16) ⟨c, by omega⟩ (by omega), Int32.or_comm (nI _) (nI (e * _)), ks_orN (k := 24) ⟨e, by omega⟩ (by omega)]
  congr 1
  omega
theorem rp_step_congr {r k : Nat} (hk : k < 160) {w w' : Nat → Int32} {t : rp_T} (h : ∀ j, j < 16 → w j = w' j) : rp_step r k w t = rp_step r k w' t := by
  unfold rp_step rp_x
  rw [h _ (rp_o_ok _ hk).2]
theorem ks_ti2 {l : Launch} {G : ks_G} {M : ks_M} {d pc : Nat} {lv : List (Nat × Value)} {st : List Value} {S : ks_S} {P : Option Value → ks_S → Prop} {a : Value} {x y : Int32} (h : x = y) (k : ks_X l G M d pc lv (a :: .int y :: st) S P) : ks_X l G M d pc lv (a :: .int x :: st) S P := h ▸ k
set_option maxRecDepth 100000 in
set_option maxHeartbeats 800000 in
theorem c_md_side {l : Launch} {G : ks_G} {d : Nat} {S : ks_S} {V : Nat → Value} {R r k : Nat} {T f : Nat → Int32} {mo : Int32} (hO : S.2.2 290 = some (rfE V)) (h293 : S.2.2 293 = some (kI 64 f)) (h300 : S.2.2 300 = some (kI 160 (ks_row st_RIPE_ORDER))) (h301 : S.2.2 301 = some (kI 160 (ks_row st_RIPE_TURNS))) (hR : 303 ≤ R ∧ R ≤ 304) (eR : S.2.2 R = some (kI 5 T)) (hr : r < 5) (hk : k < 160) (hm : mo = rp_k k) : ks_P l G yX16_side mX16_side (d + 1) [.ref 290, .ref R, .int (nI r), .int (nI k), .int mo] S (fun z S' => z = none ∧ ks_up S S' [R] ∧ ∃ T', S'.2.2 R = some (kI 5 T') ∧ rp_s T' = rp_step r k f (rp_s T)) := by
  have kB : R < ks_B := by unfold ks_B; omega
  have ho := rp_o_ok k hk
  have ho2 := ho.2
  have rest : ∀ x, x = rp_f r (T 1) (T 2) (T 3) → ks_X l G mX16_side (d + 1) 100 [(0, .ref 290), (1, .ref R), (3, .int (nI k)), (4, .int mo), (5, .int (T 1)), (6, .int (T 2)), (7, .int (T 3))] [.int x] S (fun z S' => z = none ∧ ks_up S S' [R] ∧ ∃ T', S'.2.2 R = some (kI 5 T') ∧ rp_s T' = rp_step r k f (rp_s T)) := by
    intro x hx
    refine ks_istore dX16_side_100 (by decide) rfl ?_
    refine ks_sub [(8, _), (0, _), (1, _), (3, _), (4, _), (5, _), (6, _), (7, _)] rfl ?_
    refine ks_aload_n dX16_side_102 rfl rfl ?_
    refine ks_iconst (x := nI 0) dX16_side_103 (by decide) rfl ?_
    refine ks_ialdN (i := 0) eR rfl (by decide) (by decide) dX16_side_104 rfl ?_
    refine ks_iload dX16_side_105 rfl rfl ?_
    refine ks_iadd dX16_side_107 rfl ?_
    refine ks_aload_n dX16_side_108 rfl rfl ?_
    refine ks_getf (T := TX16) (kf := 2) kx_2370 rfl in_X16 cl_X16 (by decide) hO rfl dX16_side_109 rfl ?_
    refine ks_aload_n dX16_side_112 rfl rfl ?_
    refine ks_getf (T := TX16) (kf := 9) kx_2377 rfl in_X16 cl_X16 (by decide) hO rfl dX16_side_113 rfl ?_
    refine ks_iload_n dX16_side_116 rfl rfl ?_
    refine ks_ialdN (i := k) h300 rfl (by omega) (by decide) dX16_side_117 rfl ?_
    refine ks_ti (y := nI (rp_o k)) ho.1 ?_
    refine ks_ialdN (i := rp_o k) h293 rfl (by omega) (by decide) dX16_side_118 rfl ?_
    refine ks_iadd dX16_side_119 rfl ?_
    refine ks_iload dX16_side_120 rfl rfl ?_
    refine ks_iadd dX16_side_122 rfl ?_
    refine ks_aload_n dX16_side_123 rfl rfl ?_
    refine ks_getf (T := TX16) (kf := 10) kx_2378 rfl in_X16 cl_X16 (by decide) hO rfl dX16_side_124 rfl ?_
    refine ks_iload_n dX16_side_127 rfl rfl ?_
    refine ks_ialdN (i := k) h301 rfl (by omega) (by decide) dX16_side_128 rfl ?_
    have ex : T 0 + x + f (rp_o k) + mo = rp_x r k f (rp_s T) := by rw [hx, hm]; rfl
    refine ks_ti2 ex ?_
    refine ks_callS (n := 2) (M' := mX16_turn) (c_md_turn (d := d)) kx_2000 kx_2001 kx_30 kx_2002 (by decide +kernel) rfl (by decide) (Nat.le_of_ble_eq_true rfl) rfl dX16_side_129 rfl (fun z1 T1 y1 => ?_)
    obtain ⟨rfl, hT1⟩ := y1
    obtain rfl := hT1.symm
    refine ks_aload_n dX16_side_132 rfl rfl ?_
    refine ks_iconst (x := nI 4) dX16_side_133 (by decide) rfl ?_
    refine ks_ialdN (i := 4) eR rfl (by decide) (by decide) dX16_side_134 rfl ?_
    refine ks_iadd dX16_side_135 rfl ?_
    refine ks_istore dX16_side_136 (by decide) rfl ?_
    refine ks_sub [(9, _), (0, _), (1, _), (3, _), (4, _), (5, _), (6, _), (7, _), (8, _)] rfl ?_
    refine ks_aload_n dX16_side_138 rfl rfl ?_
    refine ks_iconst (x := nI 0) dX16_side_139 (by decide) rfl ?_
    refine ks_aload_n dX16_side_140 rfl rfl ?_
    refine ks_iconst (x := nI 4) dX16_side_141 (by decide) rfl ?_
    refine ks_ialdN (i := 4) eR rfl (by decide) (by decide) dX16_side_142 rfl ?_
    refine ks_iastN (i := 0) kB eR rfl (by decide) (by decide) dX16_side_143 rfl ?_
    refine ks_aload_n dX16_side_144 rfl rfl ?_
    refine ks_iconst (x := nI 4) dX16_side_145 (by decide) rfl ?_
    refine ks_iload dX16_side_146 rfl rfl ?_
    refine ks_iastN (i := 4) kB (ks_set_same _ _ _) rfl (by decide) (by decide) dX16_side_148 rfl ?_
    refine ks_aload_n dX16_side_149 rfl rfl ?_
    refine ks_iconst (x := nI 3) dX16_side_150 (by decide) rfl ?_
    refine ks_iload dX16_side_151 rfl rfl ?_
    refine ks_bipush (x := nI 10) dX16_side_153 (by decide) rfl ?_
    refine ks_callS (n := 2) (M' := mX16_turn) (c_md_turn (d := d)) kx_2000 kx_2001 kx_30 kx_2002 (by decide +kernel) rfl (by decide) (Nat.le_of_ble_eq_true rfl) rfl dX16_side_155 rfl (fun z2 T2 y2 => ?_)
    obtain ⟨rfl, hT2⟩ := y2
    obtain rfl := hT2.symm
    refine ks_iastN (i := 3) kB (ks_set_same _ _ _) rfl (by decide) (by decide) dX16_side_158 rfl ?_
    refine ks_aload_n dX16_side_159 rfl rfl ?_
    refine ks_iconst (x := nI 2) dX16_side_160 (by decide) rfl ?_
    refine ks_iload dX16_side_161 rfl rfl ?_
    refine ks_iastN (i := 2) kB (ks_set_same _ _ _) rfl (by decide) (by decide) dX16_side_163 rfl ?_
    refine ks_aload_n dX16_side_164 rfl rfl ?_
    refine ks_iconst (x := nI 1) dX16_side_165 (by decide) rfl ?_
    refine ks_iload dX16_side_166 rfl rfl ?_
    refine ks_iastN (i := 1) kB (ks_set_same _ _ _) rfl (by decide) (by decide) dX16_side_168 rfl ?_
    refine ks_ret rfl dX16_side_169 ?_
    refine ⟨rfl, ?_, _, ks_set_same _ _ _, rfl⟩
    exact ((((ks_up_set _ _ (List.mem_singleton.mpr rfl)).trans (ks_up_set _ _ (List.mem_singleton.mpr rfl))).trans (ks_up_set _ _ (List.mem_singleton.mpr rfl))).trans (ks_up_set _ _ (List.mem_singleton.mpr rfl))).trans (ks_up_set _ _ (List.mem_singleton.mpr rfl))
  obtain rfl | rfl | rfl | rfl | rfl : r = 0 ∨ r = 1 ∨ r = 2 ∨ r = 3 ∨ r = 4 := by omega
  · refine ks_of (by decide) rfl rfl (Nat.le_of_ble_eq_true rfl) ?_
    show ks_X l G mX16_side (d + 1) 0 [(0, .ref 290), (1, .ref R), (2, .int (nI 0)), (3, .int (nI k)), (4, .int mo)] [] S _
    refine ks_aload_n dX16_side_0 rfl rfl ?_
    refine ks_iconst (x := nI 1) dX16_side_1 (by decide) rfl ?_
    refine ks_ialdN (i := 1) eR rfl (by decide) (by decide) dX16_side_2 rfl ?_
    refine ks_istore dX16_side_3 (by decide) rfl ?_
    refine ks_sub [(5, _), (0, _), (1, _), (2, _), (3, _), (4, _)] rfl ?_
    refine ks_aload_n dX16_side_5 rfl rfl ?_
    refine ks_iconst (x := nI 2) dX16_side_6 (by decide) rfl ?_
    refine ks_ialdN (i := 2) eR rfl (by decide) (by decide) dX16_side_7 rfl ?_
    refine ks_istore dX16_side_8 (by decide) rfl ?_
    refine ks_sub [(6, _), (0, _), (1, _), (2, _), (3, _), (4, _), (5, _)] rfl ?_
    refine ks_aload_n dX16_side_10 rfl rfl ?_
    refine ks_iconst (x := nI 3) dX16_side_11 (by decide) rfl ?_
    refine ks_ialdN (i := 3) eR rfl (by decide) (by decide) dX16_side_12 rfl ?_
    refine ks_istore dX16_side_13 (by decide) rfl ?_
    refine ks_sub [(7, _), (0, _), (1, _), (2, _), (3, _), (4, _), (5, _), (6, _)] rfl ?_
    refine ks_iload_n dX16_side_15 rfl rfl ?_
    refine ks_if_neN (tgt := 30) (by decide) dX16_side_16 (by decide) rfl (fun h => absurd h (by decide)) (fun _ => ?_)
    refine ks_iload dX16_side_19 rfl rfl ?_
    refine ks_iload dX16_side_21 rfl rfl ?_
    refine ks_ixor dX16_side_23 rfl ?_
    refine ks_iload dX16_side_24 rfl rfl ?_
    refine ks_ixor dX16_side_26 rfl ?_
    refine ks_goto (tgt := 100) dX16_side_27 (by decide) ?_
    exact ks_sub [(0, _), (1, _), (3, _), (4, _), (5, _), (6, _), (7, _)] rfl (rest _ rfl)
  · refine ks_of (by decide) rfl rfl (Nat.le_of_ble_eq_true rfl) ?_
    show ks_X l G mX16_side (d + 1) 0 [(0, .ref 290), (1, .ref R), (2, .int (nI 1)), (3, .int (nI k)), (4, .int mo)] [] S _
    refine ks_aload_n dX16_side_0 rfl rfl ?_
    refine ks_iconst (x := nI 1) dX16_side_1 (by decide) rfl ?_
    refine ks_ialdN (i := 1) eR rfl (by decide) (by decide) dX16_side_2 rfl ?_
    refine ks_istore dX16_side_3 (by decide) rfl ?_
    refine ks_sub [(5, _), (0, _), (1, _), (2, _), (3, _), (4, _)] rfl ?_
    refine ks_aload_n dX16_side_5 rfl rfl ?_
    refine ks_iconst (x := nI 2) dX16_side_6 (by decide) rfl ?_
    refine ks_ialdN (i := 2) eR rfl (by decide) (by decide) dX16_side_7 rfl ?_
    refine ks_istore dX16_side_8 (by decide) rfl ?_
    refine ks_sub [(6, _), (0, _), (1, _), (2, _), (3, _), (4, _), (5, _)] rfl ?_
    refine ks_aload_n dX16_side_10 rfl rfl ?_
    refine ks_iconst (x := nI 3) dX16_side_11 (by decide) rfl ?_
    refine ks_ialdN (i := 3) eR rfl (by decide) (by decide) dX16_side_12 rfl ?_
    refine ks_istore dX16_side_13 (by decide) rfl ?_
    refine ks_sub [(7, _), (0, _), (1, _), (2, _), (3, _), (4, _), (5, _), (6, _)] rfl ?_
    refine ks_iload_n dX16_side_15 rfl rfl ?_
    refine ks_if_neN (tgt := 30) (by decide) dX16_side_16 (by decide) rfl (fun _ => ?_) (fun h => absurd h (by decide))
    refine ks_iload_n dX16_side_30 rfl rfl ?_
    refine ks_iconst (x := nI 1) dX16_side_31 (by decide) rfl ?_
    refine ks_icmp_neN (tgt := 51) (by decide) (by decide) dX16_side_32 (by decide) rfl (fun h => absurd h (by decide)) (fun _ => ?_)
    refine ks_iload dX16_side_35 rfl rfl ?_
    refine ks_iload dX16_side_37 rfl rfl ?_
    refine ks_iand dX16_side_39 rfl ?_
    refine ks_iload dX16_side_40 rfl rfl ?_
    refine ks_iconst (x := (-1)) dX16_side_42 (by decide) rfl ?_
    refine ks_ixor dX16_side_43 rfl ?_
    refine ks_iload dX16_side_44 rfl rfl ?_
    refine ks_iand dX16_side_46 rfl ?_
    refine ks_ior dX16_side_47 rfl ?_
    refine ks_goto (tgt := 100) dX16_side_48 (by decide) ?_
    exact ks_sub [(0, _), (1, _), (3, _), (4, _), (5, _), (6, _), (7, _)] rfl (rest _ rfl)
  · refine ks_of (by decide) rfl rfl (Nat.le_of_ble_eq_true rfl) ?_
    show ks_X l G mX16_side (d + 1) 0 [(0, .ref 290), (1, .ref R), (2, .int (nI 2)), (3, .int (nI k)), (4, .int mo)] [] S _
    refine ks_aload_n dX16_side_0 rfl rfl ?_
    refine ks_iconst (x := nI 1) dX16_side_1 (by decide) rfl ?_
    refine ks_ialdN (i := 1) eR rfl (by decide) (by decide) dX16_side_2 rfl ?_
    refine ks_istore dX16_side_3 (by decide) rfl ?_
    refine ks_sub [(5, _), (0, _), (1, _), (2, _), (3, _), (4, _)] rfl ?_
    refine ks_aload_n dX16_side_5 rfl rfl ?_
    refine ks_iconst (x := nI 2) dX16_side_6 (by decide) rfl ?_
    refine ks_ialdN (i := 2) eR rfl (by decide) (by decide) dX16_side_7 rfl ?_
    refine ks_istore dX16_side_8 (by decide) rfl ?_
    refine ks_sub [(6, _), (0, _), (1, _), (2, _), (3, _), (4, _), (5, _)] rfl ?_
    refine ks_aload_n dX16_side_10 rfl rfl ?_
    refine ks_iconst (x := nI 3) dX16_side_11 (by decide) rfl ?_
    refine ks_ialdN (i := 3) eR rfl (by decide) (by decide) dX16_side_12 rfl ?_
    refine ks_istore dX16_side_13 (by decide) rfl ?_
    refine ks_sub [(7, _), (0, _), (1, _), (2, _), (3, _), (4, _), (5, _), (6, _)] rfl ?_
    refine ks_iload_n dX16_side_15 rfl rfl ?_
    refine ks_if_neN (tgt := 30) (by decide) dX16_side_16 (by decide) rfl (fun _ => ?_) (fun h => absurd h (by decide))
    refine ks_iload_n dX16_side_30 rfl rfl ?_
    refine ks_iconst (x := nI 1) dX16_side_31 (by decide) rfl ?_
    refine ks_icmp_neN (tgt := 51) (by decide) (by decide) dX16_side_32 (by decide) rfl (fun _ => ?_) (fun h => absurd h (by decide))
    refine ks_iload_n dX16_side_51 rfl rfl ?_
    refine ks_iconst (x := nI 2) dX16_side_52 (by decide) rfl ?_
    refine ks_icmp_neN (tgt := 69) (by decide) (by decide) dX16_side_53 (by decide) rfl (fun h => absurd h (by decide)) (fun _ => ?_)
    refine ks_iload dX16_side_56 rfl rfl ?_
    refine ks_iload dX16_side_58 rfl rfl ?_
    refine ks_iconst (x := (-1)) dX16_side_60 (by decide) rfl ?_
    refine ks_ixor dX16_side_61 rfl ?_
    refine ks_ior dX16_side_62 rfl ?_
    refine ks_iload dX16_side_63 rfl rfl ?_
    refine ks_ixor dX16_side_65 rfl ?_
    refine ks_goto (tgt := 100) dX16_side_66 (by decide) ?_
    exact ks_sub [(0, _), (1, _), (3, _), (4, _), (5, _), (6, _), (7, _)] rfl (rest _ rfl)
  · refine ks_of (by decide) rfl rfl (Nat.le_of_ble_eq_true rfl) ?_
    show ks_X l G mX16_side (d + 1) 0 [(0, .ref 290), (1, .ref R), (2, .int (nI 3)), (3, .int (nI k)), (4, .int mo)] [] S _
    refine ks_aload_n dX16_side_0 rfl rfl ?_
    refine ks_iconst (x := nI 1) dX16_side_1 (by decide) rfl ?_
    refine ks_ialdN (i := 1) eR rfl (by decide) (by decide) dX16_side_2 rfl ?_
    refine ks_istore dX16_side_3 (by decide) rfl ?_
    refine ks_sub [(5, _), (0, _), (1, _), (2, _), (3, _), (4, _)] rfl ?_
    refine ks_aload_n dX16_side_5 rfl rfl ?_
    refine ks_iconst (x := nI 2) dX16_side_6 (by decide) rfl ?_
    refine ks_ialdN (i := 2) eR rfl (by decide) (by decide) dX16_side_7 rfl ?_
    refine ks_istore dX16_side_8 (by decide) rfl ?_
    refine ks_sub [(6, _), (0, _), (1, _), (2, _), (3, _), (4, _), (5, _)] rfl ?_
    refine ks_aload_n dX16_side_10 rfl rfl ?_
    refine ks_iconst (x := nI 3) dX16_side_11 (by decide) rfl ?_
    refine ks_ialdN (i := 3) eR rfl (by decide) (by decide) dX16_side_12 rfl ?_
    refine ks_istore dX16_side_13 (by decide) rfl ?_
    refine ks_sub [(7, _), (0, _), (1, _), (2, _), (3, _), (4, _), (5, _), (6, _)] rfl ?_
    refine ks_iload_n dX16_side_15 rfl rfl ?_
    refine ks_if_neN (tgt := 30) (by decide) dX16_side_16 (by decide) rfl (fun _ => ?_) (fun h => absurd h (by decide))
    refine ks_iload_n dX16_side_30 rfl rfl ?_
    refine ks_iconst (x := nI 1) dX16_side_31 (by decide) rfl ?_
    refine ks_icmp_neN (tgt := 51) (by decide) (by decide) dX16_side_32 (by decide) rfl (fun _ => ?_) (fun h => absurd h (by decide))
    refine ks_iload_n dX16_side_51 rfl rfl ?_
    refine ks_iconst (x := nI 2) dX16_side_52 (by decide) rfl ?_
    refine ks_icmp_neN (tgt := 69) (by decide) (by decide) dX16_side_53 (by decide) rfl (fun _ => ?_) (fun h => absurd h (by decide))
    refine ks_iload_n dX16_side_69 rfl rfl ?_
    refine ks_iconst (x := nI 3) dX16_side_70 (by decide) rfl ?_
    refine ks_icmp_neN (tgt := 90) (by decide) (by decide) dX16_side_71 (by decide) rfl (fun h => absurd h (by decide)) (fun _ => ?_)
    refine ks_iload dX16_side_74 rfl rfl ?_
    refine ks_iload dX16_side_76 rfl rfl ?_
    refine ks_iand dX16_side_78 rfl ?_
    refine ks_iload dX16_side_79 rfl rfl ?_
    refine ks_iload dX16_side_81 rfl rfl ?_
    refine ks_iconst (x := (-1)) dX16_side_83 (by decide) rfl ?_
    refine ks_ixor dX16_side_84 rfl ?_
    refine ks_iand dX16_side_85 rfl ?_
    refine ks_ior dX16_side_86 rfl ?_
    refine ks_goto (tgt := 100) dX16_side_87 (by decide) ?_
    exact ks_sub [(0, _), (1, _), (3, _), (4, _), (5, _), (6, _), (7, _)] rfl (rest _ rfl)
  · refine ks_of (by decide) rfl rfl (Nat.le_of_ble_eq_true rfl) ?_
    show ks_X l G mX16_side (d + 1) 0 [(0, .ref 290), (1, .ref R), (2, .int (nI 4)), (3, .int (nI k)), (4, .int mo)] [] S _
    refine ks_aload_n dX16_side_0 rfl rfl ?_
    refine ks_iconst (x := nI 1) dX16_side_1 (by decide) rfl ?_
    refine ks_ialdN (i := 1) eR rfl (by decide) (by decide) dX16_side_2 rfl ?_
    refine ks_istore dX16_side_3 (by decide) rfl ?_
    refine ks_sub [(5, _), (0, _), (1, _), (2, _), (3, _), (4, _)] rfl ?_
    refine ks_aload_n dX16_side_5 rfl rfl ?_
    refine ks_iconst (x := nI 2) dX16_side_6 (by decide) rfl ?_
    refine ks_ialdN (i := 2) eR rfl (by decide) (by decide) dX16_side_7 rfl ?_
    refine ks_istore dX16_side_8 (by decide) rfl ?_
    refine ks_sub [(6, _), (0, _), (1, _), (2, _), (3, _), (4, _), (5, _)] rfl ?_
    refine ks_aload_n dX16_side_10 rfl rfl ?_
    refine ks_iconst (x := nI 3) dX16_side_11 (by decide) rfl ?_
    refine ks_ialdN (i := 3) eR rfl (by decide) (by decide) dX16_side_12 rfl ?_
    refine ks_istore dX16_side_13 (by decide) rfl ?_
    refine ks_sub [(7, _), (0, _), (1, _), (2, _), (3, _), (4, _), (5, _), (6, _)] rfl ?_
    refine ks_iload_n dX16_side_15 rfl rfl ?_
    refine ks_if_neN (tgt := 30) (by decide) dX16_side_16 (by decide) rfl (fun _ => ?_) (fun h => absurd h (by decide))
    refine ks_iload_n dX16_side_30 rfl rfl ?_
    refine ks_iconst (x := nI 1) dX16_side_31 (by decide) rfl ?_
    refine ks_icmp_neN (tgt := 51) (by decide) (by decide) dX16_side_32 (by decide) rfl (fun _ => ?_) (fun h => absurd h (by decide))
    refine ks_iload_n dX16_side_51 rfl rfl ?_
    refine ks_iconst (x := nI 2) dX16_side_52 (by decide) rfl ?_
    refine ks_icmp_neN (tgt := 69) (by decide) (by decide) dX16_side_53 (by decide) rfl (fun _ => ?_) (fun h => absurd h (by decide))
    refine ks_iload_n dX16_side_69 rfl rfl ?_
    refine ks_iconst (x := nI 3) dX16_side_70 (by decide) rfl ?_
    refine ks_icmp_neN (tgt := 90) (by decide) (by decide) dX16_side_71 (by decide) rfl (fun _ => ?_) (fun h => absurd h (by decide))
    refine ks_iload dX16_side_90 rfl rfl ?_
    refine ks_iload dX16_side_92 rfl rfl ?_
    refine ks_iload dX16_side_94 rfl rfl ?_
    refine ks_iconst (x := (-1)) dX16_side_96 (by decide) rfl ?_
    refine ks_ixor dX16_side_97 rfl ?_
    refine ks_ior dX16_side_98 rfl ?_
    refine ks_ixor dX16_side_99 rfl ?_
    exact ks_sub [(0, _), (1, _), (3, _), (4, _), (5, _), (6, _), (7, _)] rfl (rest _ rfl)
set_option maxRecDepth 100000 in
set_option maxHeartbeats 3200000 in
theorem c_md_ripeBlock {l : Launch} {G : ks_G} {d : Nat} {S : ks_S} {V : Nat → Value} {y N b : Nat} {g : Nat → Nat} {F f a0 b0 : Nat → Int32} (hO : S.2.2 290 = some (rfE V)) (hy : S.2.2 y = some (kB N g)) (kg : kO g) (hb : b + 64 ≤ N) (hN : N < 2 ^ 28) (h292 : S.2.2 292 = some (kI 8 F)) (h293 : S.2.2 293 = some (kI 64 f)) (h300 : S.2.2 300 = some (kI 160 (ks_row st_RIPE_ORDER))) (h301 : S.2.2 301 = some (kI 160 (ks_row st_RIPE_TURNS))) (h302 : S.2.2 302 = some (kI 10 (ks_row st_RIPE_WORDS))) (h303 : S.2.2 303 = some (kI 5 a0)) (h304 : S.2.2 304 = some (kI 5 b0)) (hyn : y ≠ 293) : ks_P l G yX16_ripeBlock mX16_ripeBlock (d + 2) [.ref 290, .ref y, .int (nI b)] S (fun z S' => z = none ∧ ks_up S S' [292, 293, 303, 304] ∧ (∃ f, S'.2.2 293 = some (kI 64 f)) ∧ (∃ f, S'.2.2 303 = some (kI 5 f)) ∧ (∃ f, S'.2.2 304 = some (kI 5 f)) ∧ ∃ F', S'.2.2 292 = some (kI 8 F') ∧ ∀ x, x < 5 → F' x = rp_blk F g b x) := by
  have l4 : ∀ (S1 : ks_S) (f1 A B : Nat → Int32), ks_up S S1 [293, 303, 304] → S1.2.2 293 = some (kI 64 f1) → S1.2.2 303 = some (kI 5 A) → S1.2.2 304 = some (kI 5 B) → rp_s A = rp_rd 0 (rp_w g b) (rp_s F) 80 → rp_s B = rp_rd 1 (rp_w g b) (rp_s F) 80 → ks_X l G mX16_ripeBlock (d + 2) 184 [(0, .ref 290), (1, .ref y), (2, .int (nI b))] [] S1 (fun z S' => z = none ∧ ks_up S S' [292, 293, 303, 304] ∧ (∃ f, S'.2.2 293 = some (kI 64 f)) ∧ (∃ f, S'.2.2 303 = some (kI 5 f)) ∧ (∃ f, S'.2.2 304 = some (kI 5 f)) ∧ ∃ F', S'.2.2 292 = some (kI 8 F') ∧ ∀ x, x < 5 → F' x = rp_blk F g b x) := by
    intro S1 f1 A B hu e1 eA eB hA hB
    have o1 := hu.at hO (by decide)
    have es := hu.at h292 (by decide)
    refine ks_aload_n dX16_ripeBlock_184 rfl rfl ?_
    refine ks_getf (T := TX16) (kf := 1) kx_2369 rfl in_X16 cl_X16 (by decide) o1 rfl dX16_ripeBlock_185 rfl ?_
    refine ks_iconst (x := nI 1) dX16_ripeBlock_188 (by decide) rfl ?_
    refine ks_ialdN (i := 1) es rfl (by decide) (by decide) dX16_ripeBlock_189 rfl ?_
    refine ks_aload_n dX16_ripeBlock_190 rfl rfl ?_
    refine ks_getf (T := TX16) (kf := 12) kx_2380 rfl in_X16 cl_X16 (by decide) o1 rfl dX16_ripeBlock_191 rfl ?_
    refine ks_iconst (x := nI 2) dX16_ripeBlock_194 (by decide) rfl ?_
    refine ks_ialdN (i := 2) eA rfl (by decide) (by decide) dX16_ripeBlock_195 rfl ?_
    refine ks_iadd dX16_ripeBlock_196 rfl ?_
    refine ks_aload_n dX16_ripeBlock_197 rfl rfl ?_
    refine ks_getf (T := TX16) (kf := 13) kx_2381 rfl in_X16 cl_X16 (by decide) o1 rfl dX16_ripeBlock_198 rfl ?_
    refine ks_iconst (x := nI 3) dX16_ripeBlock_201 (by decide) rfl ?_
    refine ks_ialdN (i := 3) eB rfl (by decide) (by decide) dX16_ripeBlock_202 rfl ?_
    refine ks_iadd dX16_ripeBlock_203 rfl ?_
    refine ks_istore_n dX16_ripeBlock_204 (by decide) rfl ?_
    refine ks_sub [(3, _), (0, _), (1, _), (2, _)] rfl ?_
    refine ks_aload_n dX16_ripeBlock_205 rfl rfl ?_
    refine ks_getf (T := TX16) (kf := 1) kx_2369 rfl in_X16 cl_X16 (by decide) o1 rfl dX16_ripeBlock_206 rfl ?_
    refine ks_iconst (x := nI 1) dX16_ripeBlock_209 (by decide) rfl ?_
    refine ks_aload_n dX16_ripeBlock_210 rfl rfl ?_
    refine ks_getf (T := TX16) (kf := 1) kx_2369 rfl in_X16 cl_X16 (by decide) o1 rfl dX16_ripeBlock_211 rfl ?_
    refine ks_iconst (x := nI 2) dX16_ripeBlock_214 (by decide) rfl ?_
    refine ks_ialdN (i := 2) es rfl (by decide) (by decide) dX16_ripeBlock_215 rfl ?_
    refine ks_aload_n dX16_ripeBlock_216 rfl rfl ?_
    refine ks_getf (T := TX16) (kf := 12) kx_2380 rfl in_X16 cl_X16 (by decide) o1 rfl dX16_ripeBlock_217 rfl ?_
    refine ks_iconst (x := nI 3) dX16_ripeBlock_220 (by decide) rfl ?_
    refine ks_ialdN (i := 3) eA rfl (by decide) (by decide) dX16_ripeBlock_221 rfl ?_
    refine ks_iadd dX16_ripeBlock_222 rfl ?_
    refine ks_aload_n dX16_ripeBlock_223 rfl rfl ?_
    refine ks_getf (T := TX16) (kf := 13) kx_2381 rfl in_X16 cl_X16 (by decide) o1 rfl dX16_ripeBlock_224 rfl ?_
    refine ks_iconst (x := nI 4) dX16_ripeBlock_227 (by decide) rfl ?_
    refine ks_ialdN (i := 4) eB rfl (by decide) (by decide) dX16_ripeBlock_228 rfl ?_
    refine ks_iadd dX16_ripeBlock_229 rfl ?_
    refine ks_iastN (i := 1) (by decide) es rfl (by decide) (by decide) dX16_ripeBlock_230 rfl ?_
    refine ks_aload_n dX16_ripeBlock_231 rfl rfl ?_
    refine ks_getf (T := TX16) (kf := 1) kx_2369 rfl in_X16 cl_X16 (by decide) ((ks_set_ne _ _ (by decide)).trans o1) rfl dX16_ripeBlock_232 rfl ?_
    refine ks_iconst (x := nI 2) dX16_ripeBlock_235 (by decide) rfl ?_
    refine ks_aload_n dX16_ripeBlock_236 rfl rfl ?_
    refine ks_getf (T := TX16) (kf := 1) kx_2369 rfl in_X16 cl_X16 (by decide) ((ks_set_ne _ _ (by decide)).trans o1) rfl dX16_ripeBlock_237 rfl ?_
    refine ks_iconst (x := nI 3) dX16_ripeBlock_240 (by decide) rfl ?_
    refine ks_ialdN (i := 3) (ks_set_same _ _ _) rfl (by decide) (by decide) dX16_ripeBlock_241 rfl ?_
    refine ks_aload_n dX16_ripeBlock_242 rfl rfl ?_
    refine ks_getf (T := TX16) (kf := 12) kx_2380 rfl in_X16 cl_X16 (by decide) ((ks_set_ne _ _ (by decide)).trans o1) rfl dX16_ripeBlock_243 rfl ?_
    refine ks_iconst (x := nI 4) dX16_ripeBlock_246 (by decide) rfl ?_
    refine ks_ialdN (i := 4) ((ks_set_ne _ _ (by decide)).trans eA) rfl (by decide) (by decide) dX16_ripeBlock_247 rfl ?_
    refine ks_iadd dX16_ripeBlock_248 rfl ?_
    refine ks_aload_n dX16_ripeBlock_249 rfl rfl ?_
    refine ks_getf (T := TX16) (kf := 13) kx_2381 rfl in_X16 cl_X16 (by decide) ((ks_set_ne _ _ (by decide)).trans o1) rfl dX16_ripeBlock_250 rfl ?_
    refine ks_iconst (x := nI 0) dX16_ripeBlock_253 (by decide) rfl ?_
    refine ks_ialdN (i := 0) ((ks_set_ne _ _ (by decide)).trans eB) rfl (by decide) (by decide) dX16_ripeBlock_254 rfl ?_
    refine ks_iadd dX16_ripeBlock_255 rfl ?_
    refine ks_iastN (i := 2) (by decide) (ks_set_same _ _ _) rfl (by decide) (by decide) dX16_ripeBlock_256 rfl ?_
    refine ks_aload_n dX16_ripeBlock_257 rfl rfl ?_
    refine ks_getf (T := TX16) (kf := 1) kx_2369 rfl in_X16 cl_X16 (by decide) ((ks_set_ne _ _ (by decide)).trans ((ks_set_ne _ _ (by decide)).trans o1)) rfl dX16_ripeBlock_258 rfl ?_
    refine ks_iconst (x := nI 3) dX16_ripeBlock_261 (by decide) rfl ?_
    refine ks_aload_n dX16_ripeBlock_262 rfl rfl ?_
    refine ks_getf (T := TX16) (kf := 1) kx_2369 rfl in_X16 cl_X16 (by decide) ((ks_set_ne _ _ (by decide)).trans ((ks_set_ne _ _ (by decide)).trans o1)) rfl dX16_ripeBlock_263 rfl ?_
    refine ks_iconst (x := nI 4) dX16_ripeBlock_266 (by decide) rfl ?_
    refine ks_ialdN (i := 4) (ks_set_same _ _ _) rfl (by decide) (by decide) dX16_ripeBlock_267 rfl ?_
    refine ks_aload_n dX16_ripeBlock_268 rfl rfl ?_
    refine ks_getf (T := TX16) (kf := 12) kx_2380 rfl in_X16 cl_X16 (by decide) ((ks_set_ne _ _ (by decide)).trans ((ks_set_ne _ _ (by decide)).trans o1)) rfl dX16_ripeBlock_269 rfl ?_
    refine ks_iconst (x := nI 0) dX16_ripeBlock_272 (by decide) rfl ?_
    refine ks_ialdN (i := 0) ((ks_set_ne _ _ (by decide)).trans ((ks_set_ne _ _ (by decide)).trans eA)) rfl (by decide) (by decide) dX16_ripeBlock_273 rfl ?_
    refine ks_iadd dX16_ripeBlock_274 rfl ?_
    refine ks_aload_n dX16_ripeBlock_275 rfl rfl ?_
    refine ks_getf (T := TX16) (kf := 13) kx_2381 rfl in_X16 cl_X16 (by decide) ((ks_set_ne _ _ (by decide)).trans ((ks_set_ne _ _ (by decide)).trans o1)) rfl dX16_ripeBlock_276 rfl ?_
    refine ks_iconst (x := nI 1) dX16_ripeBlock_279 (by decide) rfl ?_
    refine ks_ialdN (i := 1) ((ks_set_ne _ _ (by decide)).trans ((ks_set_ne _ _ (by decide)).trans eB)) rfl (by decide) (by decide) dX16_ripeBlock_280 rfl ?_
    refine ks_iadd dX16_ripeBlock_281 rfl ?_
    refine ks_iastN (i := 3) (by decide) (ks_set_same _ _ _) rfl (by decide) (by decide) dX16_ripeBlock_282 rfl ?_
    refine ks_aload_n dX16_ripeBlock_283 rfl rfl ?_
    refine ks_getf (T := TX16) (kf := 1) kx_2369 rfl in_X16 cl_X16 (by decide) ((ks_set_ne _ _ (by decide)).trans ((ks_set_ne _ _ (by decide)).trans ((ks_set_ne _ _ (by decide)).trans o1))) rfl dX16_ripeBlock_284 rfl ?_
    refine ks_iconst (x := nI 4) dX16_ripeBlock_287 (by decide) rfl ?_
    refine ks_aload_n dX16_ripeBlock_288 rfl rfl ?_
    refine ks_getf (T := TX16) (kf := 1) kx_2369 rfl in_X16 cl_X16 (by decide) ((ks_set_ne _ _ (by decide)).trans ((ks_set_ne _ _ (by decide)).trans ((ks_set_ne _ _ (by decide)).trans o1))) rfl dX16_ripeBlock_289 rfl ?_
    refine ks_iconst (x := nI 0) dX16_ripeBlock_292 (by decide) rfl ?_
    refine ks_ialdN (i := 0) (ks_set_same _ _ _) rfl (by decide) (by decide) dX16_ripeBlock_293 rfl ?_
    refine ks_aload_n dX16_ripeBlock_294 rfl rfl ?_
    refine ks_getf (T := TX16) (kf := 12) kx_2380 rfl in_X16 cl_X16 (by decide) ((ks_set_ne _ _ (by decide)).trans ((ks_set_ne _ _ (by decide)).trans ((ks_set_ne _ _ (by decide)).trans o1))) rfl dX16_ripeBlock_295 rfl ?_
    refine ks_iconst (x := nI 1) dX16_ripeBlock_298 (by decide) rfl ?_
    refine ks_ialdN (i := 1) ((ks_set_ne _ _ (by decide)).trans ((ks_set_ne _ _ (by decide)).trans ((ks_set_ne _ _ (by decide)).trans eA))) rfl (by decide) (by decide) dX16_ripeBlock_299 rfl ?_
    refine ks_iadd dX16_ripeBlock_300 rfl ?_
    refine ks_aload_n dX16_ripeBlock_301 rfl rfl ?_
    refine ks_getf (T := TX16) (kf := 13) kx_2381 rfl in_X16 cl_X16 (by decide) ((ks_set_ne _ _ (by decide)).trans ((ks_set_ne _ _ (by decide)).trans ((ks_set_ne _ _ (by decide)).trans o1))) rfl dX16_ripeBlock_302 rfl ?_
    refine ks_iconst (x := nI 2) dX16_ripeBlock_305 (by decide) rfl ?_
    refine ks_ialdN (i := 2) ((ks_set_ne _ _ (by decide)).trans ((ks_set_ne _ _ (by decide)).trans ((ks_set_ne _ _ (by decide)).trans eB))) rfl (by decide) (by decide) dX16_ripeBlock_306 rfl ?_
    refine ks_iadd dX16_ripeBlock_307 rfl ?_
    refine ks_iastN (i := 4) (by decide) (ks_set_same _ _ _) rfl (by decide) (by decide) dX16_ripeBlock_308 rfl ?_
    refine ks_aload_n dX16_ripeBlock_309 rfl rfl ?_
    refine ks_getf (T := TX16) (kf := 1) kx_2369 rfl in_X16 cl_X16 (by decide) ((ks_set_ne _ _ (by decide)).trans ((ks_set_ne _ _ (by decide)).trans ((ks_set_ne _ _ (by decide)).trans ((ks_set_ne _ _ (by decide)).trans o1)))) rfl dX16_ripeBlock_310 rfl ?_
    refine ks_iconst (x := nI 0) dX16_ripeBlock_313 (by decide) rfl ?_
    refine ks_iload_n dX16_ripeBlock_314 rfl rfl ?_
    refine ks_iastN (i := 0) (by decide) (ks_set_same _ _ _) rfl (by decide) (by decide) dX16_ripeBlock_315 rfl ?_
    refine ks_ret rfl dX16_ripeBlock_316 ?_
    refine ⟨rfl, (hu.mono (by decide)).trans ?_, ⟨f1, ?_⟩, ⟨A, ?_⟩, ⟨B, ?_⟩, _, ks_set_same _ _ _, fun x hx => ?_⟩
    · exact ((((ks_up_set _ _ (by decide)).trans (ks_up_set _ _ (by decide))).trans (ks_up_set _ _ (by decide))).trans (ks_up_set _ _ (by decide))).trans (ks_up_set _ _ (by decide))
    · exact ((ks_set_ne _ _ (by decide)).trans ((ks_set_ne _ _ (by decide)).trans ((ks_set_ne _ _ (by decide)).trans ((ks_set_ne _ _ (by decide)).trans ((ks_set_ne _ _ (by decide)).trans e1)))))
    · exact ((ks_set_ne _ _ (by decide)).trans ((ks_set_ne _ _ (by decide)).trans ((ks_set_ne _ _ (by decide)).trans ((ks_set_ne _ _ (by decide)).trans ((ks_set_ne _ _ (by decide)).trans eA)))))
    · exact ((ks_set_ne _ _ (by decide)).trans ((ks_set_ne _ _ (by decide)).trans ((ks_set_ne _ _ (by decide)).trans ((ks_set_ne _ _ (by decide)).trans ((ks_set_ne _ _ (by decide)).trans eB)))))
    · unfold rp_blk
      rw [← hA, ← hB]
      rfl
  have l3 : ∀ (u i : Nat) (S1 : ks_S) (f1 A B : Nat → Int32), i + u = 80 → ks_up S S1 [293, 303, 304] → S1.2.2 293 = some (kI 64 f1) → (∀ j, j < 16 → f1 j = rp_w g b j) → S1.2.2 303 = some (kI 5 A) → S1.2.2 304 = some (kI 5 B) → rp_s A = rp_rd 0 (rp_w g b) (rp_s F) i → rp_s B = rp_rd 1 (rp_w g b) (rp_s F) i → ks_X l G mX16_ripeBlock (d + 2) 121 [(0, .ref 290), (1, .ref y), (2, .int (nI b)), (3, .int (nI i))] [] S1 (fun z S' => z = none ∧ ks_up S S' [292, 293, 303, 304] ∧ (∃ f, S'.2.2 293 = some (kI 64 f)) ∧ (∃ f, S'.2.2 303 = some (kI 5 f)) ∧ (∃ f, S'.2.2 304 = some (kI 5 f)) ∧ ∃ F', S'.2.2 292 = some (kI 8 F') ∧ ∀ x, x < 5 → F' x = rp_blk F g b x) := by
    intro u
    induction u with
    | zero =>
      intro i S1 f1 A B hi hu e1 hf eA eB hA hB
      have o1 := hu.at hO (by decide)
      have q0 := hu.at h300 (by decide)
      have q1 := hu.at h301 (by decide)
      have q2 := hu.at h302 (by decide)
      obtain rfl : i = 80 := hi
      refine ks_iload_n dX16_ripeBlock_121 rfl rfl ?_
      refine ks_bipush (x := nI 80) dX16_ripeBlock_122 (by decide) rfl ?_
      refine ks_icmp_geN (tgt := 184) (by decide) (by decide) dX16_ripeBlock_124 (by decide) rfl (fun _ => ?_) (fun h => absurd h (by decide))
      exact ks_sub [(0, _), (1, _), (2, _)] rfl (l4 S1 f1 A B hu e1 eA eB hA hB)
    | succ u ih =>
      intro i S1 f1 A B hi hu e1 hf eA eB hA hB
      have o1 := hu.at hO (by decide)
      have q0 := hu.at h300 (by decide)
      have q1 := hu.at h301 (by decide)
      have q2 := hu.at h302 (by decide)
      have i80 : i < 80 := by omega
      refine ks_iload_n dX16_ripeBlock_121 rfl rfl ?_
      refine ks_bipush (x := nI 80) dX16_ripeBlock_122 (by decide) rfl ?_
      refine ks_icmp_geN (tgt := 184) (by omega) (by decide) dX16_ripeBlock_124 (by decide) rfl (fun h1 => absurd h1 (by omega)) (fun h1 => ?_)
      refine ks_aload_n dX16_ripeBlock_127 rfl rfl ?_
      refine ks_aload_n dX16_ripeBlock_128 rfl rfl ?_
      refine ks_getf (T := TX16) (kf := 12) kx_2380 rfl in_X16 cl_X16 (by decide) o1 rfl dX16_ripeBlock_129 rfl ?_
      refine ks_iload_n dX16_ripeBlock_132 rfl rfl ?_
      refine ks_bipush (x := nI 16) dX16_ripeBlock_133 (by decide) rfl ?_
      refine ks_divN (by omega) (by decide) (by decide) dX16_ripeBlock_135 rfl ?_
      refine ks_iload_n dX16_ripeBlock_136 rfl rfl ?_
      refine ks_aload_n dX16_ripeBlock_137 rfl rfl ?_
      refine ks_getf (T := TX16) (kf := 11) kx_2379 rfl in_X16 cl_X16 (by decide) o1 rfl dX16_ripeBlock_138 rfl ?_
      refine ks_iload_n dX16_ripeBlock_141 rfl rfl ?_
      refine ks_bipush (x := nI 16) dX16_ripeBlock_142 (by decide) rfl ?_
      refine ks_divN (by omega) (by decide) (by decide) dX16_ripeBlock_144 rfl ?_
      refine ks_ialdN (i := i / 16) q2 rfl (by omega) (by decide) dX16_ripeBlock_145 rfl ?_
      refine ks_callV (n := 4) (M' := mX16_side) (c_md_side (d := d) (r := i / 16) (k := i) o1 e1 q0 q1 (by decide) eA (by omega) (by omega) rfl) o1 cl_X16 rfl kx_2225 kx_2227 kxp_100 kx_30 kx_2228 (by decide +kernel) rfl (by decide) (Nat.le_of_ble_eq_true rfl) rfl dX16_ripeBlock_146 rfl (fun z1 T1 y1 => ?_)
      obtain ⟨rfl, u1, A1, eA1, hA1⟩ := y1
      have o2 := u1.at o1 (by decide)
      have q02 := u1.at q0 (by decide)
      have q12 := u1.at q1 (by decide)
      have q22 := u1.at q2 (by decide)
      have e12 := u1.at e1 (by decide)
      have eB2 := u1.at eB (by decide)
      refine ks_aload_n dX16_ripeBlock_149 rfl rfl ?_
      refine ks_aload_n dX16_ripeBlock_150 rfl rfl ?_
      refine ks_getf (T := TX16) (kf := 13) kx_2381 rfl in_X16 cl_X16 (by decide) o2 rfl dX16_ripeBlock_151 rfl ?_
      refine ks_iconst (x := nI 4) dX16_ripeBlock_154 (by decide) rfl ?_
      refine ks_iload_n dX16_ripeBlock_155 rfl rfl ?_
      refine ks_bipush (x := nI 16) dX16_ripeBlock_156 (by decide) rfl ?_
      refine ks_divN (by omega) (by decide) (by decide) dX16_ripeBlock_158 rfl ?_
      refine ks_subN (by omega) dX16_ripeBlock_159 rfl ?_
      refine ks_bipush (x := nI 80) dX16_ripeBlock_160 (by decide) rfl ?_
      refine ks_iload_n dX16_ripeBlock_162 rfl rfl ?_
      refine ks_addN dX16_ripeBlock_163 rfl ?_
      refine ks_aload_n dX16_ripeBlock_164 rfl rfl ?_
      refine ks_getf (T := TX16) (kf := 11) kx_2379 rfl in_X16 cl_X16 (by decide) o2 rfl dX16_ripeBlock_165 rfl ?_
      refine ks_iconst (x := nI 5) dX16_ripeBlock_168 (by decide) rfl ?_
      refine ks_iload_n dX16_ripeBlock_169 rfl rfl ?_
      refine ks_bipush (x := nI 16) dX16_ripeBlock_170 (by decide) rfl ?_
      refine ks_divN (by omega) (by decide) (by decide) dX16_ripeBlock_172 rfl ?_
      refine ks_addN dX16_ripeBlock_173 rfl ?_
      refine ks_ialdN (i := 5 + (i / 16)) q22 rfl (by omega) (by decide) dX16_ripeBlock_174 rfl ?_
      refine ks_callV (n := 4) (M' := mX16_side) (c_md_side (d := d) (r := 4 - i / 16) (k := 80 + i) o2 e12 q02 q12 (by decide) eB2 (by omega) (by omega) (by unfold rp_k; rw [show (80 + i) / 16 = 5 + i / 16 by omega])) o2 cl_X16 rfl kx_2225 kx_2227 kxp_100 kx_30 kx_2228 (by decide +kernel) rfl (by decide) (Nat.le_of_ble_eq_true rfl) rfl dX16_ripeBlock_175 rfl (fun z2 T2 y2 => ?_)
      obtain ⟨rfl, u2, B1, eB1, hB1⟩ := y2
      refine ks_incN (c := 1) (e := i + 1) dX16_ripeBlock_178 rfl (by decide) rfl (by decide) rfl ?_
      refine ks_sub [(3, _), (0, _), (1, _), (2, _)] rfl ?_
      refine ks_goto (tgt := 121) dX16_ripeBlock_181 (by decide) ?_
      refine ks_sub [(0, _), (1, _), (2, _), (3, _)] rfl (ih (i + 1) T2 f1 A1 B1 (by omega) ((hu.trans (u1.mono (by decide))).trans (u2.mono (by decide))) (u2.at e12 (by decide)) hf (u2.at eA1 (by decide)) eB1 ?_ ?_)
      · rw [hA1, hA, rp_step_congr (by omega) hf]
        show _ = rp_step _ (80 * 0 + i) _ _
        rw [if_pos rfl, Nat.mul_zero, Nat.zero_add]
      · rw [hB1, hB, rp_step_congr (by omega) hf]
        show _ = rp_step _ (80 * 1 + i) _ _
        rw [if_neg (by decide), Nat.mul_one]
  have l2 : ∀ (S1 : ks_S) (f1 : Nat → Int32), ks_up S S1 [293] → S1.2.2 293 = some (kI 64 f1) → (∀ j, j < 16 → f1 j = rp_w g b j) → ks_X l G mX16_ripeBlock (d + 2) 82 [(0, .ref 290), (1, .ref y), (2, .int (nI b))] [] S1 (fun z S' => z = none ∧ ks_up S S' [292, 293, 303, 304] ∧ (∃ f, S'.2.2 293 = some (kI 64 f)) ∧ (∃ f, S'.2.2 303 = some (kI 5 f)) ∧ (∃ f, S'.2.2 304 = some (kI 5 f)) ∧ ∃ F', S'.2.2 292 = some (kI 8 F') ∧ ∀ x, x < 5 → F' x = rp_blk F g b x) := by
    intro S1 f1 hu e1 hf
    have o1 := hu.at hO (by decide)
    have es := hu.at h292 (by decide)
    have eA := hu.at h303 (by decide)
    have eB := hu.at h304 (by decide)
    refine ks_iconst (x := nI 0) dX16_ripeBlock_82 (by decide) rfl ?_
    refine ks_istore_n dX16_ripeBlock_83 (by decide) rfl ?_
    refine ks_sub [(3, _), (0, _), (1, _), (2, _)] rfl ?_
    refine ks_iload_n dX16_ripeBlock_84 rfl rfl ?_
    refine ks_iconst (x := nI 5) dX16_ripeBlock_85 (by decide) rfl ?_
    refine ks_icmp_geN (tgt := 119) (by decide) (by decide) dX16_ripeBlock_86 (by decide) rfl (fun h => absurd h (by decide)) (fun _ => ?_)
    refine ks_aload_n dX16_ripeBlock_89 rfl rfl ?_
    refine ks_getf (T := TX16) (kf := 12) kx_2380 rfl in_X16 cl_X16 (by decide) o1 rfl dX16_ripeBlock_90 rfl ?_
    refine ks_iload_n dX16_ripeBlock_93 rfl rfl ?_
    refine ks_aload_n dX16_ripeBlock_94 rfl rfl ?_
    refine ks_getf (T := TX16) (kf := 1) kx_2369 rfl in_X16 cl_X16 (by decide) o1 rfl dX16_ripeBlock_95 rfl ?_
    refine ks_iload_n dX16_ripeBlock_98 rfl rfl ?_
    refine ks_ialdN (i := 0) es rfl (by decide) (by decide) dX16_ripeBlock_99 rfl ?_
    refine ks_iastN (i := 0) (by decide) eA rfl (by decide) (by decide) dX16_ripeBlock_100 rfl ?_
    refine ks_aload_n dX16_ripeBlock_101 rfl rfl ?_
    refine ks_getf (T := TX16) (kf := 13) kx_2381 rfl in_X16 cl_X16 (by decide) ((ks_set_ne _ _ (by decide)).trans o1) rfl dX16_ripeBlock_102 rfl ?_
    refine ks_iload_n dX16_ripeBlock_105 rfl rfl ?_
    refine ks_aload_n dX16_ripeBlock_106 rfl rfl ?_
    refine ks_getf (T := TX16) (kf := 1) kx_2369 rfl in_X16 cl_X16 (by decide) ((ks_set_ne _ _ (by decide)).trans o1) rfl dX16_ripeBlock_107 rfl ?_
    refine ks_iload_n dX16_ripeBlock_110 rfl rfl ?_
    refine ks_ialdN (i := 0) ((ks_set_ne _ _ (by decide)).trans es) rfl (by decide) (by decide) dX16_ripeBlock_111 rfl ?_
    refine ks_iastN (i := 0) (by decide) ((ks_set_ne _ _ (by decide)).trans eB) rfl (by decide) (by decide) dX16_ripeBlock_112 rfl ?_
    refine ks_incN (c := 1) (e := 1) dX16_ripeBlock_113 rfl (by decide) rfl (by decide) rfl ?_
    refine ks_sub [(3, _), (0, _), (1, _), (2, _)] rfl ?_
    refine ks_goto (tgt := 84) dX16_ripeBlock_116 (by decide) ?_
    refine ks_iload_n dX16_ripeBlock_84 rfl rfl ?_
    refine ks_iconst (x := nI 5) dX16_ripeBlock_85 (by decide) rfl ?_
    refine ks_icmp_geN (tgt := 119) (by decide) (by decide) dX16_ripeBlock_86 (by decide) rfl (fun h => absurd h (by decide)) (fun _ => ?_)
    refine ks_aload_n dX16_ripeBlock_89 rfl rfl ?_
    refine ks_getf (T := TX16) (kf := 12) kx_2380 rfl in_X16 cl_X16 (by decide) ((ks_set_ne _ _ (by decide)).trans ((ks_set_ne _ _ (by decide)).trans o1)) rfl dX16_ripeBlock_90 rfl ?_
    refine ks_iload_n dX16_ripeBlock_93 rfl rfl ?_
    refine ks_aload_n dX16_ripeBlock_94 rfl rfl ?_
    refine ks_getf (T := TX16) (kf := 1) kx_2369 rfl in_X16 cl_X16 (by decide) ((ks_set_ne _ _ (by decide)).trans ((ks_set_ne _ _ (by decide)).trans o1)) rfl dX16_ripeBlock_95 rfl ?_
    refine ks_iload_n dX16_ripeBlock_98 rfl rfl ?_
    refine ks_ialdN (i := 1) ((ks_set_ne _ _ (by decide)).trans ((ks_set_ne _ _ (by decide)).trans es)) rfl (by decide) (by decide) dX16_ripeBlock_99 rfl ?_
    refine ks_iastN (i := 1) (by decide) ((ks_set_ne _ _ (by decide)).trans (ks_set_same _ _ _)) rfl (by decide) (by decide) dX16_ripeBlock_100 rfl ?_
    refine ks_aload_n dX16_ripeBlock_101 rfl rfl ?_
    refine ks_getf (T := TX16) (kf := 13) kx_2381 rfl in_X16 cl_X16 (by decide) ((ks_set_ne _ _ (by decide)).trans ((ks_set_ne _ _ (by decide)).trans ((ks_set_ne _ _ (by decide)).trans o1))) rfl dX16_ripeBlock_102 rfl ?_
    refine ks_iload_n dX16_ripeBlock_105 rfl rfl ?_
    refine ks_aload_n dX16_ripeBlock_106 rfl rfl ?_
    refine ks_getf (T := TX16) (kf := 1) kx_2369 rfl in_X16 cl_X16 (by decide) ((ks_set_ne _ _ (by decide)).trans ((ks_set_ne _ _ (by decide)).trans ((ks_set_ne _ _ (by decide)).trans o1))) rfl dX16_ripeBlock_107 rfl ?_
    refine ks_iload_n dX16_ripeBlock_110 rfl rfl ?_
    refine ks_ialdN (i := 1) ((ks_set_ne _ _ (by decide)).trans ((ks_set_ne _ _ (by decide)).trans ((ks_set_ne _ _ (by decide)).trans es))) rfl (by decide) (by decide) dX16_ripeBlock_111 rfl ?_
    refine ks_iastN (i := 1) (by decide) ((ks_set_ne _ _ (by decide)).trans (ks_set_same _ _ _)) rfl (by decide) (by decide) dX16_ripeBlock_112 rfl ?_
    refine ks_incN (c := 1) (e := 2) dX16_ripeBlock_113 rfl (by decide) rfl (by decide) rfl ?_
    refine ks_sub [(3, _), (0, _), (1, _), (2, _)] rfl ?_
    refine ks_goto (tgt := 84) dX16_ripeBlock_116 (by decide) ?_
    refine ks_iload_n dX16_ripeBlock_84 rfl rfl ?_
    refine ks_iconst (x := nI 5) dX16_ripeBlock_85 (by decide) rfl ?_
    refine ks_icmp_geN (tgt := 119) (by decide) (by decide) dX16_ripeBlock_86 (by decide) rfl (fun h => absurd h (by decide)) (fun _ => ?_)
    refine ks_aload_n dX16_ripeBlock_89 rfl rfl ?_
    refine ks_getf (T := TX16) (kf := 12) kx_2380 rfl in_X16 cl_X16 (by decide) ((ks_set_ne _ _ (by decide)).trans ((ks_set_ne _ _ (by decide)).trans ((ks_set_ne _ _ (by decide)).trans ((ks_set_ne _ _ (by decide)).trans o1)))) rfl dX16_ripeBlock_90 rfl ?_
    refine ks_iload_n dX16_ripeBlock_93 rfl rfl ?_
    refine ks_aload_n dX16_ripeBlock_94 rfl rfl ?_
    refine ks_getf (T := TX16) (kf := 1) kx_2369 rfl in_X16 cl_X16 (by decide) ((ks_set_ne _ _ (by decide)).trans ((ks_set_ne _ _ (by decide)).trans ((ks_set_ne _ _ (by decide)).trans ((ks_set_ne _ _ (by decide)).trans o1)))) rfl dX16_ripeBlock_95 rfl ?_
    refine ks_iload_n dX16_ripeBlock_98 rfl rfl ?_
    refine ks_ialdN (i := 2) ((ks_set_ne _ _ (by decide)).trans ((ks_set_ne _ _ (by decide)).trans ((ks_set_ne _ _ (by decide)).trans ((ks_set_ne _ _ (by decide)).trans es)))) rfl (by decide) (by decide) dX16_ripeBlock_99 rfl ?_
    refine ks_iastN (i := 2) (by decide) ((ks_set_ne _ _ (by decide)).trans (ks_set_same _ _ _)) rfl (by decide) (by decide) dX16_ripeBlock_100 rfl ?_
    refine ks_aload_n dX16_ripeBlock_101 rfl rfl ?_
    refine ks_getf (T := TX16) (kf := 13) kx_2381 rfl in_X16 cl_X16 (by decide) ((ks_set_ne _ _ (by decide)).trans ((ks_set_ne _ _ (by decide)).trans ((ks_set_ne _ _ (by decide)).trans ((ks_set_ne _ _ (by decide)).trans ((ks_set_ne _ _ (by decide)).trans o1))))) rfl dX16_ripeBlock_102 rfl ?_
    refine ks_iload_n dX16_ripeBlock_105 rfl rfl ?_
    refine ks_aload_n dX16_ripeBlock_106 rfl rfl ?_
    refine ks_getf (T := TX16) (kf := 1) kx_2369 rfl in_X16 cl_X16 (by decide) ((ks_set_ne _ _ (by decide)).trans ((ks_set_ne _ _ (by decide)).trans ((ks_set_ne _ _ (by decide)).trans ((ks_set_ne _ _ (by decide)).trans ((ks_set_ne _ _ (by decide)).trans o1))))) rfl dX16_ripeBlock_107 rfl ?_
    refine ks_iload_n dX16_ripeBlock_110 rfl rfl ?_
    refine ks_ialdN (i := 2) ((ks_set_ne _ _ (by decide)).trans ((ks_set_ne _ _ (by decide)).trans ((ks_set_ne _ _ (by decide)).trans ((ks_set_ne _ _ (by decide)).trans ((ks_set_ne _ _ (by decide)).trans es))))) rfl (by decide) (by decide) dX16_ripeBlock_111 rfl ?_
    refine ks_iastN (i := 2) (by decide) ((ks_set_ne _ _ (by decide)).trans (ks_set_same _ _ _)) rfl (by decide) (by decide) dX16_ripeBlock_112 rfl ?_
    refine ks_incN (c := 1) (e := 3) dX16_ripeBlock_113 rfl (by decide) rfl (by decide) rfl ?_
    refine ks_sub [(3, _), (0, _), (1, _), (2, _)] rfl ?_
    refine ks_goto (tgt := 84) dX16_ripeBlock_116 (by decide) ?_
    refine ks_iload_n dX16_ripeBlock_84 rfl rfl ?_
    refine ks_iconst (x := nI 5) dX16_ripeBlock_85 (by decide) rfl ?_
    refine ks_icmp_geN (tgt := 119) (by decide) (by decide) dX16_ripeBlock_86 (by decide) rfl (fun h => absurd h (by decide)) (fun _ => ?_)
    refine ks_aload_n dX16_ripeBlock_89 rfl rfl ?_
    refine ks_getf (T := TX16) (kf := 12) kx_2380 rfl in_X16 cl_X16 (by decide) ((ks_set_ne _ _ (by decide)).trans ((ks_set_ne _ _ (by decide)).trans ((ks_set_ne _ _ (by decide)).trans ((ks_set_ne _ _ (by decide)).trans ((ks_set_ne _ _ (by decide)).trans ((ks_set_ne _ _ (by decide)).trans o1)))))) rfl dX16_ripeBlock_90 rfl ?_
    refine ks_iload_n dX16_ripeBlock_93 rfl rfl ?_
    refine ks_aload_n dX16_ripeBlock_94 rfl rfl ?_
    refine ks_getf (T := TX16) (kf := 1) kx_2369 rfl in_X16 cl_X16 (by decide) ((ks_set_ne _ _ (by decide)).trans ((ks_set_ne _ _ (by decide)).trans ((ks_set_ne _ _ (by decide)).trans ((ks_set_ne _ _ (by decide)).trans ((ks_set_ne _ _ (by decide)).trans ((ks_set_ne _ _ (by decide)).trans o1)))))) rfl dX16_ripeBlock_95 rfl ?_
    refine ks_iload_n dX16_ripeBlock_98 rfl rfl ?_
    refine ks_ialdN (i := 3) ((ks_set_ne _ _ (by decide)).trans ((ks_set_ne _ _ (by decide)).trans ((ks_set_ne _ _ (by decide)).trans ((ks_set_ne _ _ (by decide)).trans ((ks_set_ne _ _ (by decide)).trans ((ks_set_ne _ _ (by decide)).trans es)))))) rfl (by decide) (by decide) dX16_ripeBlock_99 rfl ?_
    refine ks_iastN (i := 3) (by decide) ((ks_set_ne _ _ (by decide)).trans (ks_set_same _ _ _)) rfl (by decide) (by decide) dX16_ripeBlock_100 rfl ?_
    refine ks_aload_n dX16_ripeBlock_101 rfl rfl ?_
    refine ks_getf (T := TX16) (kf := 13) kx_2381 rfl in_X16 cl_X16 (by decide) ((ks_set_ne _ _ (by decide)).trans ((ks_set_ne _ _ (by decide)).trans ((ks_set_ne _ _ (by decide)).trans ((ks_set_ne _ _ (by decide)).trans ((ks_set_ne _ _ (by decide)).trans ((ks_set_ne _ _ (by decide)).trans ((ks_set_ne _ _ (by decide)).trans o1))))))) rfl dX16_ripeBlock_102 rfl ?_
    refine ks_iload_n dX16_ripeBlock_105 rfl rfl ?_
    refine ks_aload_n dX16_ripeBlock_106 rfl rfl ?_
    refine ks_getf (T := TX16) (kf := 1) kx_2369 rfl in_X16 cl_X16 (by decide) ((ks_set_ne _ _ (by decide)).trans ((ks_set_ne _ _ (by decide)).trans ((ks_set_ne _ _ (by decide)).trans ((ks_set_ne _ _ (by decide)).trans ((ks_set_ne _ _ (by decide)).trans ((ks_set_ne _ _ (by decide)).trans ((ks_set_ne _ _ (by decide)).trans o1))))))) rfl dX16_ripeBlock_107 rfl ?_
    refine ks_iload_n dX16_ripeBlock_110 rfl rfl ?_
    refine ks_ialdN (i := 3) ((ks_set_ne _ _ (by decide)).trans ((ks_set_ne _ _ (by decide)).trans ((ks_set_ne _ _ (by decide)).trans ((ks_set_ne _ _ (by decide)).trans ((ks_set_ne _ _ (by decide)).trans ((ks_set_ne _ _ (by decide)).trans ((ks_set_ne _ _ (by decide)).trans es))))))) rfl (by decide) (by decide) dX16_ripeBlock_111 rfl ?_
    refine ks_iastN (i := 3) (by decide) ((ks_set_ne _ _ (by decide)).trans (ks_set_same _ _ _)) rfl (by decide) (by decide) dX16_ripeBlock_112 rfl ?_
    refine ks_incN (c := 1) (e := 4) dX16_ripeBlock_113 rfl (by decide) rfl (by decide) rfl ?_
    refine ks_sub [(3, _), (0, _), (1, _), (2, _)] rfl ?_
    refine ks_goto (tgt := 84) dX16_ripeBlock_116 (by decide) ?_
    refine ks_iload_n dX16_ripeBlock_84 rfl rfl ?_
    refine ks_iconst (x := nI 5) dX16_ripeBlock_85 (by decide) rfl ?_
    refine ks_icmp_geN (tgt := 119) (by decide) (by decide) dX16_ripeBlock_86 (by decide) rfl (fun h => absurd h (by decide)) (fun _ => ?_)
    refine ks_aload_n dX16_ripeBlock_89 rfl rfl ?_
    refine ks_getf (T := TX16) (kf := 12) kx_2380 rfl in_X16 cl_X16 (by decide) ((ks_set_ne _ _ (by decide)).trans ((ks_set_ne _ _ (by decide)).trans ((ks_set_ne _ _ (by decide)).trans ((ks_set_ne _ _ (by decide)).trans ((ks_set_ne _ _ (by decide)).trans ((ks_set_ne _ _ (by decide)).trans ((ks_set_ne _ _ (by decide)).trans ((ks_set_ne _ _ (by decide)).trans o1)))))))) rfl dX16_ripeBlock_90 rfl ?_
    refine ks_iload_n dX16_ripeBlock_93 rfl rfl ?_
    refine ks_aload_n dX16_ripeBlock_94 rfl rfl ?_
    refine ks_getf (T := TX16) (kf := 1) kx_2369 rfl in_X16 cl_X16 (by decide) ((ks_set_ne _ _ (by decide)).trans ((ks_set_ne _ _ (by decide)).trans ((ks_set_ne _ _ (by decide)).trans ((ks_set_ne _ _ (by decide)).trans ((ks_set_ne _ _ (by decide)).trans ((ks_set_ne _ _ (by decide)).trans ((ks_set_ne _ _ (by decide)).trans ((ks_set_ne _ _ (by decide)).trans o1)))))))) rfl dX16_ripeBlock_95 rfl ?_
    refine ks_iload_n dX16_ripeBlock_98 rfl rfl ?_
    refine ks_ialdN (i := 4) ((ks_set_ne _ _ (by decide)).trans ((ks_set_ne _ _ (by decide)).trans ((ks_set_ne _ _ (by decide)).trans ((ks_set_ne _ _ (by decide)).trans ((ks_set_ne _ _ (by decide)).trans ((ks_set_ne _ _ (by decide)).trans ((ks_set_ne _ _ (by decide)).trans ((ks_set_ne _ _ (by decide)).trans es)))))))) rfl (by decide) (by decide) dX16_ripeBlock_99 rfl ?_
    refine ks_iastN (i := 4) (by decide) ((ks_set_ne _ _ (by decide)).trans (ks_set_same _ _ _)) rfl (by decide) (by decide) dX16_ripeBlock_100 rfl ?_
    refine ks_aload_n dX16_ripeBlock_101 rfl rfl ?_
    refine ks_getf (T := TX16) (kf := 13) kx_2381 rfl in_X16 cl_X16 (by decide) ((ks_set_ne _ _ (by decide)).trans ((ks_set_ne _ _ (by decide)).trans ((ks_set_ne _ _ (by decide)).trans ((ks_set_ne _ _ (by decide)).trans ((ks_set_ne _ _ (by decide)).trans ((ks_set_ne _ _ (by decide)).trans ((ks_set_ne _ _ (by decide)).trans ((ks_set_ne _ _ (by decide)).trans ((ks_set_ne _ _ (by decide)).trans o1))))))))) rfl dX16_ripeBlock_102 rfl ?_
    refine ks_iload_n dX16_ripeBlock_105 rfl rfl ?_
    refine ks_aload_n dX16_ripeBlock_106 rfl rfl ?_
    refine ks_getf (T := TX16) (kf := 1) kx_2369 rfl in_X16 cl_X16 (by decide) ((ks_set_ne _ _ (by decide)).trans ((ks_set_ne _ _ (by decide)).trans ((ks_set_ne _ _ (by decide)).trans ((ks_set_ne _ _ (by decide)).trans ((ks_set_ne _ _ (by decide)).trans ((ks_set_ne _ _ (by decide)).trans ((ks_set_ne _ _ (by decide)).trans ((ks_set_ne _ _ (by decide)).trans ((ks_set_ne _ _ (by decide)).trans o1))))))))) rfl dX16_ripeBlock_107 rfl ?_
    refine ks_iload_n dX16_ripeBlock_110 rfl rfl ?_
    refine ks_ialdN (i := 4) ((ks_set_ne _ _ (by decide)).trans ((ks_set_ne _ _ (by decide)).trans ((ks_set_ne _ _ (by decide)).trans ((ks_set_ne _ _ (by decide)).trans ((ks_set_ne _ _ (by decide)).trans ((ks_set_ne _ _ (by decide)).trans ((ks_set_ne _ _ (by decide)).trans ((ks_set_ne _ _ (by decide)).trans ((ks_set_ne _ _ (by decide)).trans es))))))))) rfl (by decide) (by decide) dX16_ripeBlock_111 rfl ?_
    refine ks_iastN (i := 4) (by decide) ((ks_set_ne _ _ (by decide)).trans (ks_set_same _ _ _)) rfl (by decide) (by decide) dX16_ripeBlock_112 rfl ?_
    refine ks_incN (c := 1) (e := 5) dX16_ripeBlock_113 rfl (by decide) rfl (by decide) rfl ?_
    refine ks_sub [(3, _), (0, _), (1, _), (2, _)] rfl ?_
    refine ks_goto (tgt := 84) dX16_ripeBlock_116 (by decide) ?_
    refine ks_iload_n dX16_ripeBlock_84 rfl rfl ?_
    refine ks_iconst (x := nI 5) dX16_ripeBlock_85 (by decide) rfl ?_
    refine ks_icmp_geN (tgt := 119) (by decide) (by decide) dX16_ripeBlock_86 (by decide) rfl (fun _ => ?_) (fun h => absurd h (by decide))
    refine ks_iconst (x := nI 0) dX16_ripeBlock_119 (by decide) rfl ?_
    refine ks_istore_n dX16_ripeBlock_120 (by decide) rfl ?_
    refine ks_sub [(3, _), (0, _), (1, _), (2, _)] rfl ?_
    refine ks_sub [(0, _), (1, _), (2, _), (3, _)] rfl (l3 80 0 _ f1 _ _ rfl ((hu.mono (by decide)).trans ?_) ?_ hf ((ks_set_ne _ _ (by decide)).trans (ks_set_same _ _ _)) (ks_set_same _ _ _) rfl rfl)
    · exact (((((((((ks_up_set _ _ (by decide)).trans (ks_up_set _ _ (by decide))).trans (ks_up_set _ _ (by decide))).trans (ks_up_set _ _ (by decide))).trans (ks_up_set _ _ (by decide))).trans (ks_up_set _ _ (by decide))).trans (ks_up_set _ _ (by decide))).trans (ks_up_set _ _ (by decide))).trans (ks_up_set _ _ (by decide))).trans (ks_up_set _ _ (by decide))
    · exact ((ks_set_ne _ _ (by decide)).trans ((ks_set_ne _ _ (by decide)).trans ((ks_set_ne _ _ (by decide)).trans ((ks_set_ne _ _ (by decide)).trans ((ks_set_ne _ _ (by decide)).trans ((ks_set_ne _ _ (by decide)).trans ((ks_set_ne _ _ (by decide)).trans ((ks_set_ne _ _ (by decide)).trans ((ks_set_ne _ _ (by decide)).trans ((ks_set_ne _ _ (by decide)).trans e1))))))))))
  have l1 : ∀ (u i : Nat) (S1 : ks_S) (f1 : Nat → Int32), i + u = 16 → ks_up S S1 [293] → S1.2.2 293 = some (kI 64 f1) → (∀ j, j < i → f1 j = rp_w g b j) → ks_X l G mX16_ripeBlock (d + 2) 2 [(0, .ref 290), (1, .ref y), (2, .int (nI b)), (3, .int (nI i))] [] S1 (fun z S' => z = none ∧ ks_up S S' [292, 293, 303, 304] ∧ (∃ f, S'.2.2 293 = some (kI 64 f)) ∧ (∃ f, S'.2.2 303 = some (kI 5 f)) ∧ (∃ f, S'.2.2 304 = some (kI 5 f)) ∧ ∃ F', S'.2.2 292 = some (kI 8 F') ∧ ∀ x, x < 5 → F' x = rp_blk F g b x) := by
    intro u
    induction u with
    | zero =>
      intro i S1 f1 hi hu e1 hf
      have o1 := hu.at hO (by decide)
      have ey := hu.at hy (by rw [List.mem_singleton]; exact hyn)
      obtain rfl : i = 16 := hi
      refine ks_iload_n dX16_ripeBlock_2 rfl rfl ?_
      refine ks_bipush (x := nI 16) dX16_ripeBlock_3 (by decide) rfl ?_
      refine ks_icmp_geN (tgt := 82) (by decide) (by decide) dX16_ripeBlock_5 (by decide) rfl (fun _ => ?_) (fun h => absurd h (by decide))
      exact ks_sub [(0, _), (1, _), (2, _)] rfl (l2 S1 f1 hu e1 hf)
    | succ u ih =>
      intro i S1 f1 hi hu e1 hf
      have o1 := hu.at hO (by decide)
      have ey := hu.at hy (by rw [List.mem_singleton]; exact hyn)
      have i16 : i < 16 := by omega
      refine ks_iload_n dX16_ripeBlock_2 rfl rfl ?_
      refine ks_bipush (x := nI 16) dX16_ripeBlock_3 (by decide) rfl ?_
      refine ks_icmp_geN (tgt := 82) (by omega) (by decide) dX16_ripeBlock_5 (by decide) rfl (fun h1 => absurd h1 (by omega)) (fun h1 => ?_)
      refine ks_aload_n dX16_ripeBlock_8 rfl rfl ?_
      refine ks_getf (T := TX16) (kf := 2) kx_2370 rfl in_X16 cl_X16 (by decide) o1 rfl dX16_ripeBlock_9 rfl ?_
      refine ks_iload_n dX16_ripeBlock_12 rfl rfl ?_
      refine ks_aload_n dX16_ripeBlock_13 rfl rfl ?_
      refine ks_iload_n dX16_ripeBlock_14 rfl rfl ?_
      refine ks_iconst (x := nI 4) dX16_ripeBlock_15 (by decide) rfl ?_
      refine ks_iload_n dX16_ripeBlock_16 rfl rfl ?_
      refine ks_mulN dX16_ripeBlock_17 rfl ?_
      refine ks_addN dX16_ripeBlock_18 rfl ?_
      refine ks_baldB (i := b + (4 * i)) ey rfl (by omega) (by omega) dX16_ripeBlock_19 rfl ?_
      refine ks_sipush (x := nI 255) dX16_ripeBlock_20 (by decide) rfl ?_
      refine ks_andB (kg _) dX16_ripeBlock_23 rfl ?_
      have hy23 : g (b + (4 * i)) < 256 := (kg _)
      refine ks_aload_n dX16_ripeBlock_24 rfl rfl ?_
      refine ks_iload_n dX16_ripeBlock_25 rfl rfl ?_
      refine ks_iconst (x := nI 4) dX16_ripeBlock_26 (by decide) rfl ?_
      refine ks_iload_n dX16_ripeBlock_27 rfl rfl ?_
      refine ks_mulN dX16_ripeBlock_28 rfl ?_
      refine ks_addN dX16_ripeBlock_29 rfl ?_
      refine ks_iconst (x := nI 1) dX16_ripeBlock_30 (by decide) rfl ?_
      refine ks_addN dX16_ripeBlock_31 rfl ?_
      refine ks_baldB (i := b + (4 * i) + 1) ey rfl (by omega) (by omega) dX16_ripeBlock_32 rfl ?_
      refine ks_sipush (x := nI 255) dX16_ripeBlock_33 (by decide) rfl ?_
      refine ks_andB (kg _) dX16_ripeBlock_36 rfl ?_
      have hy36 : g (b + (4 * i) + 1) < 256 := (kg _)
      refine ks_bipush (x := nI 8) dX16_ripeBlock_37 (by decide) rfl ?_
      refine ks_ishl dX16_ripeBlock_39 rfl ?_
      refine ks_ior dX16_ripeBlock_40 rfl ?_
      refine ks_aload_n dX16_ripeBlock_41 rfl rfl ?_
      refine ks_iload_n dX16_ripeBlock_42 rfl rfl ?_
      refine ks_iconst (x := nI 4) dX16_ripeBlock_43 (by decide) rfl ?_
      refine ks_iload_n dX16_ripeBlock_44 rfl rfl ?_
      refine ks_mulN dX16_ripeBlock_45 rfl ?_
      refine ks_addN dX16_ripeBlock_46 rfl ?_
      refine ks_iconst (x := nI 2) dX16_ripeBlock_47 (by decide) rfl ?_
      refine ks_addN dX16_ripeBlock_48 rfl ?_
      refine ks_baldB (i := b + (4 * i) + 2) ey rfl (by omega) (by omega) dX16_ripeBlock_49 rfl ?_
      refine ks_sipush (x := nI 255) dX16_ripeBlock_50 (by decide) rfl ?_
      refine ks_andB (kg _) dX16_ripeBlock_53 rfl ?_
      have hy53 : g (b + (4 * i) + 2) < 256 := (kg _)
      refine ks_bipush (x := nI 16) dX16_ripeBlock_54 (by decide) rfl ?_
      refine ks_ishl dX16_ripeBlock_56 rfl ?_
      refine ks_ior dX16_ripeBlock_57 rfl ?_
      refine ks_aload_n dX16_ripeBlock_58 rfl rfl ?_
      refine ks_iload_n dX16_ripeBlock_59 rfl rfl ?_
      refine ks_iconst (x := nI 4) dX16_ripeBlock_60 (by decide) rfl ?_
      refine ks_iload_n dX16_ripeBlock_61 rfl rfl ?_
      refine ks_mulN dX16_ripeBlock_62 rfl ?_
      refine ks_addN dX16_ripeBlock_63 rfl ?_
      refine ks_iconst (x := nI 3) dX16_ripeBlock_64 (by decide) rfl ?_
      refine ks_addN dX16_ripeBlock_65 rfl ?_
      refine ks_baldB (i := b + (4 * i) + 3) ey rfl (by omega) (by omega) dX16_ripeBlock_66 rfl ?_
      refine ks_sipush (x := nI 255) dX16_ripeBlock_67 (by decide) rfl ?_
      refine ks_andB (kg _) dX16_ripeBlock_70 rfl ?_
      have hy70 : g (b + (4 * i) + 3) < 256 := (kg _)
      refine ks_bipush (x := nI 24) dX16_ripeBlock_71 (by decide) rfl ?_
      refine ks_ishl dX16_ripeBlock_73 rfl ?_
      refine ks_ior dX16_ripeBlock_74 rfl ?_
      refine ks_ti (y := rp_w g b i) (le4_raw (kg _) (kg _) (kg _) (kg _)) ?_
      refine ks_iastN (i := i) (by decide) e1 rfl (by omega) (by decide) dX16_ripeBlock_75 rfl ?_
      refine ks_incN (c := 1) (e := i + 1) dX16_ripeBlock_76 rfl (by decide) rfl (by decide) rfl ?_
      refine ks_sub [(3, _), (0, _), (1, _), (2, _)] rfl ?_
      refine ks_goto (tgt := 2) dX16_ripeBlock_79 (by decide) ?_
      refine ks_sub [(0, _), (1, _), (2, _), (3, _)] rfl (ih (i + 1) _ _ (by omega) (hu.trans (ks_up_set _ _ (List.mem_singleton.mpr rfl))) (ks_set_same _ _ _) (fun j hj => ?_))
      by_cases e : j = i
      · subst e; exact va_up_self _ _ _
      · rw [va_up_ne _ _ e]; exact hf j (by omega)
  refine ks_of (by decide) rfl rfl (Nat.le_of_ble_eq_true rfl) ?_
  show ks_X l G mX16_ripeBlock (d + 2) 0 [(0, .ref 290), (1, .ref y), (2, .int (nI b))] [] S _
  refine ks_iconst (x := nI 0) dX16_ripeBlock_0 (by decide) rfl ?_
  refine ks_istore_n dX16_ripeBlock_1 (by decide) rfl ?_
  refine ks_sub [(3, _), (0, _), (1, _), (2, _)] rfl ?_
  exact ks_sub [(0, _), (1, _), (2, _), (3, _)] rfl (l1 16 0 S f rfl (ks_up.rf _ _) h293 (fun j hj => absurd hj (Nat.not_lt_zero j)))
