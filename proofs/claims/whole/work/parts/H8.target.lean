/-! THE REFERENCE: bits as a target -/
theorem tgF {w z k : Nat} (h : 3 ≤ z + k) : w * 256 ^ z / 256 ^ 3 / 256 ^ (z + k - 3) = w / 256 ^ k := by
  rw [Nat.div_div_eq_div_mul, ← Nat.pow_add, show 3 + (z + k - 3) = k + z by omega, Nat.pow_add, Nat.mul_div_mul_right _ _ (Nat.pow_pos (by decide))]
theorem tg_pl : ∀ z, z < 33 → ∀ k, k < 3 → 3 ≤ z + k → nI z - nI 3 + nI k = nI (z + k - 3) := by decide +kernel
theorem tg_mi : ∀ z, z < 3 → ∀ k, k < 3 → z + k < 3 → nI z - nI 3 + nI k < 0 := by decide +kernel
set_option maxRecDepth 100000 in
set_option maxHeartbeats 1600000 in
theorem c_md_target {l : Launch} {G : ks_G} {d : Nat} {S : ks_S} {b t T : Nat} (hb : b < 2 ^ 32) (hT : wA S t T) (tB : t < ks_B) : ks_P l G yX16_target mX16_target d [.int (nI b), .ref t] S (fun z S' => z = some (.int (ks_bo (decide (tg_num b ≠ 0)))) ∧ ks_up S S' [t] ∧ wA S' t (tg_num b)) := by
  obtain ⟨gt, egt, bgt, dgt⟩ := id hT
  obtain ⟨z, ez⟩ : ∃ z, z = b / 2 ^ 24 := ⟨_, rfl⟩
  obtain ⟨v, ev⟩ : ∃ v, v = b % 2 ^ 23 := ⟨_, rfl⟩
  have loop : z ≤ 32 → ∀ N F, N = v * 256 ^ z / 256 ^ 3 → F = (fun j => N / 256 ^ j % 256) → tg_num b = N → ∀ (u k : Nat) (S1 : ks_S) (g1 : Nat → Nat) (al : Int32), k + u = 3 → ks_up S S1 [t] → S1.2.2 t = some (kN 8 g1) → (∀ j, j < 8 → g1 j < 4294967296) → dg 4294967296 g1 8 = dg 256 F (z + k - 3) → (al = 0 ↔ dg 256 F (z + k - 3) = 0) → ks_X l G mX16_target d 54 [(0, .int (nI b)), (1, .ref t), (2, .int (nI z)), (3, .int (nI v)), (4, .int al), (5, .int (nI k))] [] S1 (fun z S' => z = some (.int (ks_bo (decide (tg_num b ≠ 0)))) ∧ ks_up S S' [t] ∧ wA S' t (tg_num b)) := by
    intro z32 N F eN eF eT u
    have v23 : v < 8388608 := by omega
    have hNz : N < 256 ^ z := by rw [eN]; exact Nat.div_lt_of_lt_mul (Nat.lt_of_lt_of_le (Nat.mul_lt_mul_of_pos_right (show v < 256 ^ 3 by omega) (Nat.pow_pos (by decide))) (Nat.le_refl _))
    induction u with
    | zero =>
      intro k S1 g1 al hk hu e1 b1 hv ha
      obtain rfl : k = 3 := hk
      rw [show z + 3 - 3 = z by omega, eF, dg_of z hNz] at hv ha
      have hw : wA S1 t (tg_num b) := ⟨g1, e1, b1, by rw [eT]; exact hv⟩
      refine ks_iload dX16_target_54 rfl rfl ?_
      refine ks_iconst (x := nI 3) dX16_target_56 (by decide) rfl ?_
      refine ks_icmp_geN (tgt := 135) (by decide) (by decide) dX16_target_57 (by decide) rfl (fun _ => ?_) (fun h => absurd h (by decide))
      refine ks_iload dX16_target_135 rfl rfl ?_
      refine ks_if_eq (tgt := 144) dX16_target_137 (by decide) rfl (fun h1 => ?_) (fun h1 => ?_)
      · refine ks_iconst (x := nI 0) dX16_target_144 (by decide) rfl ?_
        refine ks_zret rfl rfl dX16_target_145 ?_
        rw [decide_eq_false (p := tg_num b ≠ 0) (fun h => h (by rw [eT]; exact ha.mp h1))]
        exact ⟨rfl, hu, hw⟩
      · refine ks_iconst (x := nI 1) dX16_target_140 (by decide) rfl ?_
        refine ks_goto (tgt := 145) dX16_target_141 (by decide) ?_
        refine ks_zret rfl rfl dX16_target_145 ?_
        rw [decide_eq_true (p := tg_num b ≠ 0) (fun h => h1 (ha.mpr (by rw [← eT]; exact h)))]
        exact ⟨rfl, hu, hw⟩
    | succ u ih =>
      intro k S1 g1 al hk hu e1 b1 hv ha
      have k3 : k < 3 := by omega
      obtain ⟨c, ec⟩ : ∃ c, c = v / 2 ^ (8 * k) % 2 ^ 8 := ⟨_, rfl⟩
      have c8 : c < 256 := by rw [ec]; exact Nat.mod_lt _ (by decide)
      have vq : v / 2 ^ (8 * k) < 8388608 := Nat.lt_of_le_of_lt (Nat.div_le_self _ _) v23
      refine ks_iload dX16_target_54 rfl rfl ?_
      refine ks_iconst (x := nI 3) dX16_target_56 (by decide) rfl ?_
      refine ks_icmp_geN (tgt := 135) (by omega) (by decide) dX16_target_57 (by decide) rfl (fun h1 => absurd h1 (by omega)) (fun h1 => ?_)
      refine ks_iload_n dX16_target_60 rfl rfl ?_
      refine ks_iconst (x := nI 3) dX16_target_61 (by decide) rfl ?_
      refine ks_isub dX16_target_62 rfl ?_
      refine ks_iload dX16_target_63 rfl rfl ?_
      refine ks_iadd dX16_target_65 rfl ?_
      by_cases hz : 3 ≤ z + k
      · refine ks_ti (y := nI (z + k - 3)) (tg_pl z (by omega) k k3 hz) ?_
        obtain ⟨p, ep⟩ : ∃ p, p = z + k - 3 := ⟨_, rfl⟩
        have p32 : p < 32 := by omega
        have ep1 : z + (k + 1) - 3 = p + 1 := by omega
        have eFp : F p = c := by
          rw [eF, ec, eN, ep]
          show v * 256 ^ z / 256 ^ 3 / 256 ^ (z + k - 3) % 256 = _
          rw [tgF hz, show (256 : Nat) ^ k = 2 ^ (8 * k) by rw [Nat.pow_mul]]
        rw [← ep] at hv ha ⊢
        have kF : ∀ j, F j < 256 := fun j => by rw [eF]; exact Nat.mod_lt _ (by decide)
        obtain ⟨s1, s2, s3⟩ := pt_step b1 kF p32 hv
        rw [eFp] at s2 s3
        have hsh : c * 2 ^ (8 * (p % 4)) < 2 ^ 32 := sh_b c8
        refine ks_istore dX16_target_66 (by decide) rfl ?_
        refine ks_sub [(6, _), (0, _), (1, _), (2, _), (3, _), (4, _), (5, _)] rfl ?_
        refine ks_iload_n dX16_target_68 rfl rfl ?_
        refine ks_bipush (x := nI 8) dX16_target_69 (by decide) rfl ?_
        refine ks_iload dX16_target_71 rfl rfl ?_
        refine ks_mulN dX16_target_73 rfl ?_
        refine ks_ushrN (k := 8 * k) (s_u _ (by omega)) (by omega) dX16_target_74 rfl ?_
        refine ks_sipush (x := nI 255) dX16_target_75 (by decide) rfl ?_
        refine ks_andN (k := 8) (by omega) (by decide) dX16_target_78 rfl ?_
        rw [← ec]
        refine ks_istore dX16_target_79 (by decide) rfl ?_
        refine ks_sub [(7, _), (0, _), (1, _), (2, _), (3, _), (4, _), (5, _), (6, _)] rfl ?_
        refine ks_iload dX16_target_81 rfl rfl ?_
        refine ks_if_ltN (tgt := 129) (by omega) dX16_target_83 (by decide) rfl ?_
        refine ks_iload dX16_target_86 rfl rfl ?_
        refine ks_if_neN (tgt := 94) (by omega) dX16_target_88 (by decide) rfl (fun h3 => ?_) (fun h3 => ?_)
        · refine ks_iload dX16_target_94 rfl rfl ?_
          refine ks_bipush (x := nI 31) dX16_target_96 (by decide) rfl ?_
          refine ks_icmp_leN (tgt := 103) (by omega) (by decide) dX16_target_98 (by decide) rfl (fun h4 => ?_) (fun h4 => absurd h4 (by omega))
          refine ks_aload_n dX16_target_103 rfl rfl ?_
          refine ks_iload dX16_target_104 rfl rfl ?_
          refine ks_iconst (x := nI 4) dX16_target_106 (by decide) rfl ?_
          refine ks_divN (by omega) (by decide) (by decide) dX16_target_107 rfl ?_
          refine ks_dup2_11 dX16_target_108 rfl rfl rfl ?_
          refine ks_ialdN (i := p / 4) e1 rfl (by omega) (by decide) dX16_target_109 rfl ?_
          refine ks_iload dX16_target_110 rfl rfl ?_
          refine ks_bipush (x := nI 8) dX16_target_112 (by decide) rfl ?_
          refine ks_iload dX16_target_114 rfl rfl ?_
          refine ks_iconst (x := nI 4) dX16_target_116 (by decide) rfl ?_
          refine ks_remN (by omega) (by decide) (by decide) dX16_target_117 rfl ?_
          refine ks_mulN dX16_target_118 rfl ?_
          refine ks_shlN (k := 8 * (p % 4)) (s_l _ (by omega)) hsh dX16_target_119 rfl ?_
          refine ks_ior dX16_target_120 rfl ?_
          refine ks_ti (y := nI (c * 2 ^ (8 * (p % 4)) + g1 (p / 4))) (or_low s1) ?_
          refine ks_iastNN (i := p / 4) (v := c * 2 ^ (8 * (p % 4)) + g1 (p / 4)) tB e1 (by omega) (by decide) dX16_target_121 rfl ?_
          refine ks_iload dX16_target_122 rfl rfl ?_
          refine ks_iload dX16_target_124 rfl rfl ?_
          refine ks_ior dX16_target_126 rfl ?_
          refine ks_istore dX16_target_127 (by decide) rfl ?_
          refine ks_sub [(4, _), (0, _), (1, _), (2, _), (3, _), (5, _), (6, _), (7, _)] rfl ?_
          refine ks_incN (c := 1) (e := k + 1) dX16_target_129 rfl (by decide) rfl (by decide) rfl ?_
          refine ks_sub [(5, _), (0, _), (1, _), (2, _), (3, _), (4, _), (6, _), (7, _)] rfl ?_
          refine ks_goto (tgt := 54) dX16_target_132 (by decide) ?_
          refine ks_sub [(0, _), (1, _), (2, _), (3, _), (4, _), (5, _)] rfl (ih (k + 1) _ _ (al ||| nI c) (by omega) (hu.trans (ks_up_set _ _ (List.mem_singleton.mpr rfl))) (ks_set_same _ _ _) s2 (by rw [ep1]; exact s3) ?_)
          rw [ep1, dg_s, eFp]
          have cp : 0 < c * 256 ^ p := Nat.mul_pos (by omega) (Nat.pow_pos (by decide))
          constructor
          · intro h
            have h9 := (orI_z.mp h).2
            exact absurd ((nI_eq32 (by omega) (by decide)).mp (h9 : nI c = nI 0)) h3
          · intro h; omega
        · refine ks_goto (tgt := 129) dX16_target_91 (by decide) ?_
          refine ks_incN (c := 1) (e := k + 1) dX16_target_129 rfl (by decide) rfl (by decide) rfl ?_
          refine ks_sub [(5, _), (0, _), (1, _), (2, _), (3, _), (4, _), (6, _), (7, _)] rfl ?_
          refine ks_goto (tgt := 54) dX16_target_132 (by decide) ?_
          have e9 : dg 256 F (p + 1) = dg 256 F p := by rw [dg_s, eFp, h3, Nat.zero_mul, Nat.add_zero]
          exact ks_sub [(0, _), (1, _), (2, _), (3, _), (4, _), (5, _)] rfl (ih (k + 1) S1 g1 al (by omega) hu e1 b1 (by rw [ep1, e9]; exact hv) (by rw [ep1, e9]; exact ha))
      · refine ks_istore dX16_target_66 (by decide) rfl ?_
        refine ks_sub [(6, _), (0, _), (1, _), (2, _), (3, _), (4, _), (5, _)] rfl ?_
        refine ks_iload_n dX16_target_68 rfl rfl ?_
        refine ks_bipush (x := nI 8) dX16_target_69 (by decide) rfl ?_
        refine ks_iload dX16_target_71 rfl rfl ?_
        refine ks_mulN dX16_target_73 rfl ?_
        refine ks_ushrN (k := 8 * k) (s_u _ (by omega)) (by omega) dX16_target_74 rfl ?_
        refine ks_sipush (x := nI 255) dX16_target_75 (by decide) rfl ?_
        refine ks_andN (k := 8) (by omega) (by decide) dX16_target_78 rfl ?_
        refine ks_istore dX16_target_79 (by decide) rfl ?_
        refine ks_sub [(7, _), (0, _), (1, _), (2, _), (3, _), (4, _), (5, _), (6, _)] rfl ?_
        refine ks_iload dX16_target_81 rfl rfl ?_
        have hm := tg_mi z (by omega) k k3 (by omega)
        refine ks_if_lt (tgt := 129) dX16_target_83 (by decide) rfl (fun h2 => ?_) (fun h2 => ?_)
        · refine ks_incN (c := 1) (e := k + 1) dX16_target_129 rfl (by decide) rfl (by decide) rfl ?_
          refine ks_sub [(5, _), (0, _), (1, _), (2, _), (3, _), (4, _), (6, _), (7, _)] rfl ?_
          refine ks_goto (tgt := 54) dX16_target_132 (by decide) ?_
          exact ks_sub [(0, _), (1, _), (2, _), (3, _), (4, _), (5, _)] rfl (ih (k + 1) S1 g1 al (by omega) hu e1 b1 (by rw [show z + (k + 1) - 3 = z + k - 3 by omega]; exact hv) (by rw [show z + (k + 1) - 3 = z + k - 3 by omega]; exact ha))
        · exact absurd hm h2
  refine ks_of (by decide) rfl rfl (Nat.le_of_ble_eq_true rfl) ?_
  show ks_X l G mX16_target d 0 [(0, .int (nI b)), (1, .ref t)] [] S _
  refine ks_iload_n dX16_target_0 rfl rfl ?_
  refine ks_bipush (x := nI 24) dX16_target_1 (by decide) rfl ?_
  refine ks_ushrN (k := 24) (by decide) (by omega) dX16_target_3 rfl ?_
  refine ks_istore_n dX16_target_4 (by decide) rfl ?_
  refine ks_sub [(2, _), (0, _), (1, _)] rfl ?_
  refine ks_iload_n dX16_target_5 rfl rfl ?_
  refine ks_ldcw dX16_target_6 kx_1950 rfl ?_
  refine ks_ti (y := nI 8388607) rfl ?_
  refine ks_andN (k := 23) (by omega) (by decide) dX16_target_9 rfl ?_
  refine ks_istore_n dX16_target_10 (by decide) rfl ?_
  refine ks_sub [(3, _), (0, _), (1, _), (2, _)] rfl ?_
  refine ks_iconst (x := nI 0) dX16_target_11 (by decide) rfl ?_
  refine ks_istore dX16_target_12 (by decide) rfl ?_
  refine ks_sub [(4, _), (0, _), (1, _), (2, _), (3, _)] rfl ?_
  rw [← ez, ← ev]
  refine ks_iload dX16_target_14 rfl rfl ?_
  refine ks_bipush (x := nI 8) dX16_target_16 (by decide) rfl ?_
  refine ks_icmp_geN (tgt := 32) (by decide) (by decide) dX16_target_18 (by decide) rfl (fun h => absurd h (by decide)) (fun _ => ?_)
  refine ks_aload_n dX16_target_21 rfl rfl ?_
  refine ks_iload dX16_target_22 rfl rfl ?_
  refine ks_iconst (x := nI 0) dX16_target_24 (by decide) rfl ?_
  refine ks_iastNN (i := 0) (v := 0) tB egt (by decide) (by decide) dX16_target_25 rfl ?_
  refine ks_incN (c := 1) (e := 1) dX16_target_26 rfl (by decide) rfl (by decide) rfl ?_
  refine ks_sub [(4, _), (0, _), (1, _), (2, _), (3, _)] rfl ?_
  refine ks_goto (tgt := 14) dX16_target_29 (by decide) ?_
  refine ks_iload dX16_target_14 rfl rfl ?_
  refine ks_bipush (x := nI 8) dX16_target_16 (by decide) rfl ?_
  refine ks_icmp_geN (tgt := 32) (by decide) (by decide) dX16_target_18 (by decide) rfl (fun h => absurd h (by decide)) (fun _ => ?_)
  refine ks_aload_n dX16_target_21 rfl rfl ?_
  refine ks_iload dX16_target_22 rfl rfl ?_
  refine ks_iconst (x := nI 0) dX16_target_24 (by decide) rfl ?_
  refine ks_iastNN (i := 1) (v := 0) tB (ks_set_same _ _ _) (by decide) (by decide) dX16_target_25 rfl ?_
  refine ks_incN (c := 1) (e := 2) dX16_target_26 rfl (by decide) rfl (by decide) rfl ?_
  refine ks_sub [(4, _), (0, _), (1, _), (2, _), (3, _)] rfl ?_
  refine ks_goto (tgt := 14) dX16_target_29 (by decide) ?_
  refine ks_iload dX16_target_14 rfl rfl ?_
  refine ks_bipush (x := nI 8) dX16_target_16 (by decide) rfl ?_
  refine ks_icmp_geN (tgt := 32) (by decide) (by decide) dX16_target_18 (by decide) rfl (fun h => absurd h (by decide)) (fun _ => ?_)
  refine ks_aload_n dX16_target_21 rfl rfl ?_
  refine ks_iload dX16_target_22 rfl rfl ?_
  refine ks_iconst (x := nI 0) dX16_target_24 (by decide) rfl ?_
  refine ks_iastNN (i := 2) (v := 0) tB (ks_set_same _ _ _) (by decide) (by decide) dX16_target_25 rfl ?_
  refine ks_incN (c := 1) (e := 3) dX16_target_26 rfl (by decide) rfl (by decide) rfl ?_
  refine ks_sub [(4, _), (0, _), (1, _), (2, _), (3, _)] rfl ?_
  refine ks_goto (tgt := 14) dX16_target_29 (by decide) ?_
  refine ks_iload dX16_target_14 rfl rfl ?_
  refine ks_bipush (x := nI 8) dX16_target_16 (by decide) rfl ?_
  refine ks_icmp_geN (tgt := 32) (by decide) (by decide) dX16_target_18 (by decide) rfl (fun h => absurd h (by decide)) (fun _ => ?_)
  refine ks_aload_n dX16_target_21 rfl rfl ?_
  refine ks_iload dX16_target_22 rfl rfl ?_
  refine ks_iconst (x := nI 0) dX16_target_24 (by decide) rfl ?_
  refine ks_iastNN (i := 3) (v := 0) tB (ks_set_same _ _ _) (by decide) (by decide) dX16_target_25 rfl ?_
  refine ks_incN (c := 1) (e := 4) dX16_target_26 rfl (by decide) rfl (by decide) rfl ?_
  refine ks_sub [(4, _), (0, _), (1, _), (2, _), (3, _)] rfl ?_
  refine ks_goto (tgt := 14) dX16_target_29 (by decide) ?_
  refine ks_iload dX16_target_14 rfl rfl ?_
  refine ks_bipush (x := nI 8) dX16_target_16 (by decide) rfl ?_
  refine ks_icmp_geN (tgt := 32) (by decide) (by decide) dX16_target_18 (by decide) rfl (fun h => absurd h (by decide)) (fun _ => ?_)
  refine ks_aload_n dX16_target_21 rfl rfl ?_
  refine ks_iload dX16_target_22 rfl rfl ?_
  refine ks_iconst (x := nI 0) dX16_target_24 (by decide) rfl ?_
  refine ks_iastNN (i := 4) (v := 0) tB (ks_set_same _ _ _) (by decide) (by decide) dX16_target_25 rfl ?_
  refine ks_incN (c := 1) (e := 5) dX16_target_26 rfl (by decide) rfl (by decide) rfl ?_
  refine ks_sub [(4, _), (0, _), (1, _), (2, _), (3, _)] rfl ?_
  refine ks_goto (tgt := 14) dX16_target_29 (by decide) ?_
  refine ks_iload dX16_target_14 rfl rfl ?_
  refine ks_bipush (x := nI 8) dX16_target_16 (by decide) rfl ?_
  refine ks_icmp_geN (tgt := 32) (by decide) (by decide) dX16_target_18 (by decide) rfl (fun h => absurd h (by decide)) (fun _ => ?_)
  refine ks_aload_n dX16_target_21 rfl rfl ?_
  refine ks_iload dX16_target_22 rfl rfl ?_
  refine ks_iconst (x := nI 0) dX16_target_24 (by decide) rfl ?_
  refine ks_iastNN (i := 5) (v := 0) tB (ks_set_same _ _ _) (by decide) (by decide) dX16_target_25 rfl ?_
  refine ks_incN (c := 1) (e := 6) dX16_target_26 rfl (by decide) rfl (by decide) rfl ?_
  refine ks_sub [(4, _), (0, _), (1, _), (2, _), (3, _)] rfl ?_
  refine ks_goto (tgt := 14) dX16_target_29 (by decide) ?_
  refine ks_iload dX16_target_14 rfl rfl ?_
  refine ks_bipush (x := nI 8) dX16_target_16 (by decide) rfl ?_
  refine ks_icmp_geN (tgt := 32) (by decide) (by decide) dX16_target_18 (by decide) rfl (fun h => absurd h (by decide)) (fun _ => ?_)
  refine ks_aload_n dX16_target_21 rfl rfl ?_
  refine ks_iload dX16_target_22 rfl rfl ?_
  refine ks_iconst (x := nI 0) dX16_target_24 (by decide) rfl ?_
  refine ks_iastNN (i := 6) (v := 0) tB (ks_set_same _ _ _) (by decide) (by decide) dX16_target_25 rfl ?_
  refine ks_incN (c := 1) (e := 7) dX16_target_26 rfl (by decide) rfl (by decide) rfl ?_
  refine ks_sub [(4, _), (0, _), (1, _), (2, _), (3, _)] rfl ?_
  refine ks_goto (tgt := 14) dX16_target_29 (by decide) ?_
  refine ks_iload dX16_target_14 rfl rfl ?_
  refine ks_bipush (x := nI 8) dX16_target_16 (by decide) rfl ?_
  refine ks_icmp_geN (tgt := 32) (by decide) (by decide) dX16_target_18 (by decide) rfl (fun h => absurd h (by decide)) (fun _ => ?_)
  refine ks_aload_n dX16_target_21 rfl rfl ?_
  refine ks_iload dX16_target_22 rfl rfl ?_
  refine ks_iconst (x := nI 0) dX16_target_24 (by decide) rfl ?_
  refine ks_iastNN (i := 7) (v := 0) tB (ks_set_same _ _ _) (by decide) (by decide) dX16_target_25 rfl ?_
  refine ks_incN (c := 1) (e := 8) dX16_target_26 rfl (by decide) rfl (by decide) rfl ?_
  refine ks_sub [(4, _), (0, _), (1, _), (2, _), (3, _)] rfl ?_
  refine ks_goto (tgt := 14) dX16_target_29 (by decide) ?_
  refine ks_iload dX16_target_14 rfl rfl ?_
  refine ks_bipush (x := nI 8) dX16_target_16 (by decide) rfl ?_
  refine ks_icmp_geN (tgt := 32) (by decide) (by decide) dX16_target_18 (by decide) rfl (fun _ => ?_) (fun h => absurd h (by decide))
  refine ks_iload_n dX16_target_32 rfl rfl ?_
  refine ks_ldcw dX16_target_33 kx_1951 rfl ?_
  refine ks_ti (y := nI 8388608) rfl ?_
  refine ks_iand dX16_target_36 rfl ?_
  have tb9 := tk_bit hb
  have hz : ∀ {g9}, (∀ j, j < 8 → g9 j = 0) → dg 4294967296 g9 8 = 0 := fun h => (dg_congr (g := fun _ => 0) h).trans (show dg 4294967296 (fun _ => 0) 8 = 0 by decide)
  refine ks_if_ne (tgt := 46) dX16_target_37 (by decide) rfl (fun h1 => ?_) (fun h1 => ?_)
  · refine ks_iconst (x := nI 0) dX16_target_46 (by decide) rfl ?_
    refine ks_zret rfl rfl dX16_target_47 ?_
    have e0 : tg_num b = 0 := by
      unfold tg_num
      rw [if_pos (by first | omega | (right; have q9 : ¬ b / 2 ^ 23 % 2 = 0 := fun h => h1 (tb9.mpr h); omega))]
    rw [e0]
    exact ⟨rfl, up8, wA_0 (ks_set_same _ _ _) z8⟩
  · refine ks_iload_n dX16_target_40 rfl rfl ?_
    refine ks_bipush (x := nI 32) dX16_target_41 (by decide) rfl ?_
    refine ks_icmp_leN (tgt := 48) (by omega) (by decide) dX16_target_43 (by decide) rfl (fun h2 => ?_) (fun h2 => ?_)
    · have b23 : b / 2 ^ 23 % 2 = 0 := tb9.mp h1
      refine ks_iconst (x := nI 0) dX16_target_48 (by decide) rfl ?_
      refine ks_istore dX16_target_49 (by decide) rfl ?_
      refine ks_sub [(4, _), (0, _), (1, _), (2, _), (3, _)] rfl ?_
      refine ks_iconst (x := nI 0) dX16_target_51 (by decide) rfl ?_
      refine ks_istore dX16_target_52 (by decide) rfl ?_
      refine ks_sub [(5, _), (0, _), (1, _), (2, _), (3, _), (4, _)] rfl ?_
      have eN : tg_num b = v * 256 ^ z / 256 ^ 3 := by
        unfold tg_num
        rw [if_neg (by omega), ← ez, show b % 256 ^ 3 = v by omega]
      have d0 : dg 256 (fun j => v * 256 ^ z / 256 ^ 3 / 256 ^ j % 256) (z + 0 - 3) = 0 := by
        refine dg_0 (fun j hj => ?_)
        rw [Nat.div_div_eq_div_mul, ← Nat.pow_add, show 256 ^ z = 256 ^ (z - (3 + j)) * 256 ^ (3 + j) by rw [← Nat.pow_add]; congr 1; omega, ← Nat.mul_assoc, Nat.mul_div_cancel _ (Nat.pow_pos (by decide)), show z - (3 + j) = (z - (3 + j) - 1) + 1 by omega, Nat.pow_succ, ← Nat.mul_assoc]
        exact Nat.mul_mod_left _ _
      refine ks_sub [(0, _), (1, _), (2, _), (3, _), (4, _), (5, _)] rfl (loop (by omega) _ _ rfl rfl eN 3 0 _ _ (nI 0) rfl up8 (ks_set_same _ _ _) (fun j hj => by rw [z8 j hj]; decide) (by rw [d0]; exact hz z8) ⟨fun _ => d0, fun _ => rfl⟩)
    · refine ks_iconst (x := nI 0) dX16_target_46 (by decide) rfl ?_
      refine ks_zret rfl rfl dX16_target_47 ?_
      have e0 : tg_num b = 0 := by
        unfold tg_num
        rw [if_pos (by first | omega | (right; have q9 : ¬ b / 2 ^ 23 % 2 = 0 := fun h => h1 (tb9.mpr h); omega))]
      rw [e0]
      exact ⟨rfl, up8, wA_0 (ks_set_same _ _ _) z8⟩
