/-! TARGET: work -/
theorem wk_inc : ∀ c, c < 256 → ks_by (sb_b c + nI 1) = (1 + c) % 256 := by decide +kernel
theorem wk_bit : ∀ c, c < 256 → ∀ s, s < 8 → ((sb_b c).toUInt32 >>> ((nI s).toUInt32 &&& Int32.toUInt32 31)).toInt32 &&& nI 1 = nI (c / 2 ^ s % 2) := by decide +kernel
theorem wk_bD {g : Nat → Nat} (hg : kO g) {t n : Nat} (h : t / 8 < n) : g (t / 8) / 2 ^ (t % 8) % 2 = dg 256 g n / 2 ^ t % 2 := by
  rw [← dg_dig (B := 256) (by decide) (fun k _ => hg k) h]
  have e : 2 ^ t = 256 ^ (t / 8) * 2 ^ (t % 8) := by rw [show (256 : Nat) = 2 ^ 8 from rfl, ← Nat.pow_mul, ← Nat.pow_add, Nat.div_add_mod]
  rw [e, ← Nat.div_div_eq_div_mul]
  generalize dg 256 g n / 256 ^ (t / 8) = x
  have h8 : t % 8 < 8 := Nat.mod_lt _ (by decide)
  generalize t % 8 = s at h8
  have e2 : 256 = 2 ^ s * (2 * 2 ^ (7 - s)) := by rw [← Nat.mul_assoc, Nat.mul_comm (2 ^ s) 2, Nat.mul_assoc, ← Nat.pow_add, show s + (7 - s) = 7 by omega]
  have e3 : x = 2 ^ s * (2 * (2 ^ (7 - s) * (x / 256))) + x % 256 := by
    have := Nat.div_add_mod x 256
    have e4 : 2 ^ s * (2 * (2 ^ (7 - s) * (x / 256))) = 256 * (x / 256) := by
      rw [show 2 ^ s * (2 * (2 ^ (7 - s) * (x / 256))) = (2 ^ s * (2 * 2 ^ (7 - s))) * (x / 256) by grind, ← e2]
    omega
  have e5 : x / 2 ^ s = 2 * (2 ^ (7 - s) * (x / 256)) + x % 256 / 2 ^ s := by
    have h9 := Nat.mul_add_div (Nat.pow_pos (n := s) (show 0 < 2 by decide)) (2 * (2 ^ (7 - s) * (x / 256))) (x % 256)
    rw [← e3] at h9
    exact h9
  rw [e5]
  omega
theorem wk_step {D i : Nat} (hD : 0 < D) : 2 ^ (i + 1) / D = 2 ^ i / D * 2 ^ 1 + (if D ≤ 2 * (2 ^ i % D) then 1 else 0) ∧ 2 ^ (i + 1) % D = (if D ≤ 2 * (2 ^ i % D) then 2 * (2 ^ i % D) - D else 2 * (2 ^ i % D)) := by
  have h1 := Nat.div_add_mod (2 ^ i) D
  have h2 := Nat.mod_lt (2 ^ i) hD
  generalize 2 ^ i / D = q at *
  generalize 2 ^ i % D = r at *
  have h3 : 2 ^ (i + 1) = D * (2 * q) + 2 * r := by rw [Nat.pow_succ, ← h1]; grind
  rw [h3]
  by_cases h : D ≤ 2 * r
  · rw [if_pos h, if_pos h, Nat.mul_add_div hD, Nat.mul_add_mod]
    have e1 : 2 * r / D = 1 := Nat.div_eq_of_lt_le (by omega) (by omega)
    have e2 : 2 * r % D = 2 * r - D := by rw [Nat.mod_eq_sub_mod h, Nat.mod_eq_of_lt (by omega)]
    omega
  · rw [if_neg h, if_neg h, Nat.mul_add_div hD, Nat.mul_add_mod, Nat.div_eq_of_lt (by omega), Nat.mod_eq_of_lt (by omega)]
    omega
theorem dg_tail {B : Nat} {f g : Nat → Nat} {i n : Nat} (h : i ≤ n) (hj : ∀ j, i ≤ j → j < n → g j = f j) : dg B g n + dg B f i = dg B f n + dg B g i := by
  obtain ⟨m, rfl⟩ := Nat.exists_eq_add_of_le h
  rw [dg_add, dg_add, dg_congr (f := fun k => g (i + k)) (g := fun k => f (i + k)) (fun k hk => hj _ (by omega) (by omega))]
  omega
theorem tk_pw {s : Nat} (h : s < 8) : 1 * 2 ^ s < 2 ^ 32 := by
  rw [Nat.one_mul]
  exact Nat.pow_lt_pow_right (by decide) (by omega)
set_option maxRecDepth 100000 in
set_option maxHeartbeats 40000000 in
theorem l_work3 {l : Launch} {G : ks_G} {d : Nat} {S : ks_S} {N : Nat} (hT : tg_ok S N) (hN : N < 2 ^ 256) (hq : 2 ^ 256 / (N + 1) < 2 ^ 63) {D : Nat} (hD : D = N + 1) {gd : Nat → Nat} (hgd : kO gd) (hdd : dg 256 gd 34 = D) : ∀ k i, i + k = 256 → ∀ (S1 : ks_S) (gr : Nat → Nat) (q : Nat), ks_up S S1 [46, 47] → S1.2.2 46 = some (kB 34 gd) → S1.2.2 47 = some (kB 34 gr) → kO gr → dg 256 gr 34 = 2 ^ i % D → q = 2 ^ i / D → ks_X l G mX9_work (d + 1) 134 [(5, .int (nI i)), (3, .long (lN q)), (0, .ref 44)] [] S1 (fun z S' => z = some (.long (lN (2 ^ 256 / (N + 1)))) ∧ ks_up S S' [46, 47] ∧ tg_ok S' N) := by
  intro k
  induction k with
  | zero =>
    intro i hi S1 gr q hu h46 h47 hgr hR hq1
    have hT1 : tg_ok S1 N := hT.up hu (by decide) (by decide) (fun _ => ⟨gd, hgd, h46⟩) (fun _ => ⟨gr, hgr, h47⟩)
    refine ks_iload dX9_work_134 rfl rfl ?_
    refine ks_sipush (x := nI 256) dX9_work_136 (by decide) rfl ?_
    refine ks_icmp_geN (tgt := 170) (by omega) (by decide) dX9_work_139 (by decide) rfl (fun hc => ?_) (fun hc => ?_)
    · refine ks_lload_n dX9_work_170 rfl rfl ?_
      refine ks_lret rfl dX9_work_171 ?_
      obtain rfl : i = 256 := by omega
      exact ⟨by rw [hq1, hD], hu, hT1⟩
    · exact absurd (show 256 ≤ i by omega) hc
  | succ k ih =>
    intro i hi S1 gr q hu h46 h47 hgr hR hq1
    have hT1 : tg_ok S1 N := hT.up hu (by decide) (by decide) (fun _ => ⟨gd, hgd, h46⟩) (fun _ => ⟨gr, hgr, h47⟩)
    refine ks_iload dX9_work_134 rfl rfl ?_
    refine ks_sipush (x := nI 256) dX9_work_136 (by decide) rfl ?_
    refine ks_icmp_geN (tgt := 170) (by omega) (by decide) dX9_work_139 (by decide) rfl (fun hc => ?_) (fun hc => ?_)
    · exact absurd hc (by omega)
    · refine ks_aload_n dX9_work_142 rfl rfl ?_
      have hRD : 2 ^ i % D < D := Nat.mod_lt _ (by omega)
      refine ks_callV (n := 0) (M' := mX9_doubleRest) (c_doubleRest (d := d) hT1 h47 hgr hR (by omega)) hT1.1 cl_X9 rfl kx_1020 kx_1022 kxp_13 kx_27 kx_1023 (by decide +kernel) rfl (by decide) (Nat.le_of_ble_eq_true rfl) rfl dX9_work_143 rfl (fun r2 S2 h2 => ?_)
      obtain ⟨rfl, hu2, gr2, hgr2, h47b, hR2⟩ := h2
      have hT2 := hT1.up hu2 (by decide) (by decide) (fun h => absurd h (by decide)) (fun _ => ⟨gr2, hgr2, h47b⟩)
      have h46b := hu2.at h46 (by decide)
      refine ks_lload_n dX9_work_146 rfl rfl ?_
      refine ks_iconst (x := nI 1) dX9_work_147 (by decide) rfl ?_
      refine ks_lshlN (k := 1) (by decide) dX9_work_148 rfl ?_
      refine ks_aload_n dX9_work_149 rfl rfl ?_
      refine ks_callV (n := 0) (M' := mX9_takeOut) (c_takeOut (d := d) hT2 h47b hgr2 hR2 h46b hgd hdd) hT2.1 cl_X9 rfl kx_1016 kx_1018 kxp_12 kx_27 kx_1019 (by decide +kernel) rfl (by decide) (Nat.le_of_ble_eq_true rfl) rfl dX9_work_150 rfl (fun r3 S3 h3 => ?_)
      obtain ⟨rfl, hu3, gr3, hgr3, h47c, hR3⟩ := h3
      obtain ⟨w1, w2⟩ := wk_step (D := D) (i := i) (by omega)
      have hmono : 2 ^ (i + 1) / D ≤ 2 ^ 256 / (N + 1) := by rw [← hD]; exact Nat.div_le_div_right (Nat.pow_le_pow_right (by decide) (by omega))
      have hup : ks_up S S3 [46, 47] := hu.trans ((hu2.mono (by decide)).trans (hu3.mono (by decide)))
      have h46c := hu3.at h46b (by decide)
      rw [← w2] at hR3
      rw [← hq1] at w1
      refine ks_if_eqZ (tgt := 160) dX9_work_153 (by decide) rfl (fun hz => ?_) (fun hz => ?_)
      · rw [if_neg (of_decide_eq_false hz)] at w1
        refine ks_iconst (x := nI 0) dX9_work_160 (by decide) rfl ?_
        refine ks_i2lN (by decide) dX9_work_161 rfl ?_
        refine ks_lorN (a := q) (k := 1) (p := 2 ^ 1) rfl (by decide) (by omega) dX9_work_162 rfl ?_
        refine ks_lstore_n dX9_work_163 (by decide) rfl ?_
        refine ks_sub [(3, _), (5, _), (0, _)] rfl ?_
        refine ks_incN (c := 1) (e := i + 1) dX9_work_164 rfl (by decide) rfl (by decide) rfl ?_
        refine ks_sub [(5, _), (3, _), (0, _)] rfl ?_
        refine ks_goto (tgt := 134) dX9_work_167 (by decide) ?_
        exact ks_sub [(5, _), (3, _), (0, _)] rfl (ih (i + 1) (by omega) S3 gr3 _ hup h46c h47c hgr3 hR3 w1.symm)
      · rw [if_pos (of_decide_eq_true hz)] at w1
        refine ks_iconst (x := nI 1) dX9_work_156 (by decide) rfl ?_
        refine ks_goto (tgt := 161) dX9_work_157 (by decide) ?_
        refine ks_i2lN (by decide) dX9_work_161 rfl ?_
        refine ks_lorN (a := q) (k := 1) (p := 2 ^ 1) rfl (by decide) (by omega) dX9_work_162 rfl ?_
        refine ks_lstore_n dX9_work_163 (by decide) rfl ?_
        refine ks_sub [(3, _), (5, _), (0, _)] rfl ?_
        refine ks_incN (c := 1) (e := i + 1) dX9_work_164 rfl (by decide) rfl (by decide) rfl ?_
        refine ks_sub [(5, _), (3, _), (0, _)] rfl ?_
        refine ks_goto (tgt := 134) dX9_work_167 (by decide) ?_
        exact ks_sub [(5, _), (3, _), (0, _)] rfl (ih (i + 1) (by omega) S3 gr3 _ hup h46c h47c hgr3 hR3 w1.symm)
set_option maxRecDepth 100000 in
set_option maxHeartbeats 40000000 in
theorem l_work94 {l : Launch} {G : ks_G} {d : Nat} {S : ks_S} {N : Nat} (hT : tg_ok S N) (hN : N < 2 ^ 256) (hq : 2 ^ 256 / (N + 1) < 2 ^ 63) : ∀ (S1 : ks_S) (gd : Nat → Nat) (t : Nat), ks_up S S1 [46, 47] → S1.2.2 46 = some (kB 34 gd) → kO gd → dg 256 gd 34 = N + 1 → t ≤ 256 → 2 ^ t ≤ N + 1 → N + 1 < 2 ^ (t + 1) → (∃ g, kO g ∧ S1.2.2 47 = some (kB 34 g)) → ks_X l G mX9_work (d + 1) 94 [(2, .int (nI t)), (0, .ref 44)] [] S1 (fun z S' => z = some (.long (lN (2 ^ 256 / (N + 1)))) ∧ ks_up S S' [46, 47] ∧ tg_ok S' N) := by
  intro S1 gd t hu h46 hgd hdd ht ht1 ht2 ⟨gr, hgr, h47⟩
  have h44 := hu.at hT.1 (by decide)
  refine ks_aload_n dX9_work_94 rfl rfl ?_
  refine ks_getf (T := TX9) (kf := 2) kx_721 rfl in_X9 cl_X9 (by decide) h44 rfl dX9_work_95 rfl ?_
  refine ks_iconst (x := nI 0) dX9_work_98 (by decide) rfl ?_
  refine ks_callS (n := 2) (M' := mJ7_fill_031fb) (c_fillB (d := d) (x := nI 0) h47 (by decide)) kx_920 kx_901 kx_6 kx_902 (by decide +kernel) rfl (by decide) (Nat.le_of_ble_eq_true rfl) rfl dX9_work_99 rfl (fun r9 S9 h9 => ?_)
  obtain ⟨rfl, rfl⟩ := h9
  refine ks_aload_n dX9_work_102 rfl rfl ?_
  refine ks_getf (T := TX9) (kf := 2) kx_721 rfl in_X9 cl_X9 (by decide) ((ks_set_ne _ _ (by decide)).trans h44) rfl dX9_work_103 rfl ?_
  refine ks_iload_n dX9_work_106 rfl rfl ?_
  refine ks_bipush (x := nI 8) dX9_work_107 (by decide) rfl ?_
  refine ks_divN (by omega) (by decide) (by decide) dX9_work_109 rfl ?_
  refine ks_iconst (x := nI 1) dX9_work_110 (by decide) rfl ?_
  refine ks_iload_n dX9_work_111 rfl rfl ?_
  refine ks_bipush (x := nI 8) dX9_work_112 (by decide) rfl ?_
  refine ks_remN (by omega) (by decide) (by decide) dX9_work_114 rfl ?_
  refine ks_shlN (k := t % 8) (s_l _ (by omega)) (tk_pw (Nat.mod_lt t (by decide))) dX9_work_115 rfl ?_
  refine ks_i2b dX9_work_116 rfl ?_
  refine ks_bastB (i := t / 8) (c := (1 * 2 ^ (t % 8)) % 256) (ks_set_same _ _ _) rfl (by omega) (by decide) ((ks_by_i8 _).trans (ks_by_nI _)) dX9_work_117 rfl ?_
  refine ks_aload_n dX9_work_118 rfl rfl ?_
  rw [ks_set_set]
  have hg3 : kO (va_up (ks_fill gr 0 34 (ks_by (nI 0))) (t / 8) ((1 * 2 ^ (t % 8)) % 256)) := kO_up (kO_fill hgr _ _ (ks_by_lt _)) (Nat.mod_lt _ (by decide))
  have hd3 : dg 256 (va_up (ks_fill gr 0 34 (ks_by (nI 0))) (t / 8) ((1 * 2 ^ (t % 8)) % 256)) 34 = 2 ^ t := by
    have e1 := dg_up (B := 256) (f := ks_fill gr 0 34 (ks_by (nI 0))) (n := 34) (j := t / 8) (c := (1 * 2 ^ (t % 8)) % 256) (by omega)
    have e2 : ks_fill gr 0 34 (ks_by (nI 0)) (t / 8) = 0 := if_pos ⟨Nat.zero_le _, by omega⟩
    rw [e2, Nat.zero_mul, Nat.add_zero, dg_0 (f := ks_fill gr 0 34 (ks_by (nI 0))) (fun k hk => if_pos ⟨Nat.zero_le _, hk⟩), Nat.zero_add] at e1
    rw [e1, Nat.one_mul, Nat.mod_eq_of_lt (Nat.lt_of_lt_of_le (Nat.pow_lt_pow_right (by decide) (Nat.mod_lt t (by decide))) (by decide : 2 ^ 8 ≤ 256)), show (256 : Nat) = 2 ^ 8 from rfl, ← Nat.pow_mul, ← Nat.pow_add, Nat.add_comm, Nat.div_add_mod]
  have hu9 : ks_up S1 (ks_set S1 47 (kB 34 (va_up (ks_fill gr 0 34 (ks_by (nI 0))) (t / 8) ((1 * 2 ^ (t % 8)) % 256)))) [47] := ks_up_set _ _ (by decide)
  have hT9 : tg_ok (ks_set S1 47 (kB 34 (va_up (ks_fill gr 0 34 (ks_by (nI 0))) (t / 8) ((1 * 2 ^ (t % 8)) % 256)))) N := hT.up (hu.trans (hu9.mono (by decide))) (by decide) (by decide) (fun _ => ⟨gd, hgd, hu9.at h46 (by decide)⟩) (fun _ => ⟨_, hg3, ks_set_same _ _ _⟩)
  refine ks_callV (n := 0) (M' := mX9_takeOut) (c_takeOut (d := d) hT9 (ks_set_same _ _ _) hg3 hd3 (hu9.at h46 (by decide)) hgd hdd) hT9.1 cl_X9 rfl kx_1016 kx_1018 kxp_12 kx_27 kx_1019 (by decide +kernel) rfl (by decide) (Nat.le_of_ble_eq_true rfl) rfl dX9_work_119 rfl (fun r3 S3 h3 => ?_)
  obtain ⟨rfl, hu3, gr3, hgr3, h47c, hR3⟩ := h3
  have hup : ks_up S S3 [46, 47] := hu.trans ((hu9.mono (by decide)).trans (hu3.mono (by decide)))
  have h46c := hu3.at (hu9.at h46 (by decide)) (by decide)
  refine ks_if_eqZ (tgt := 129) dX9_work_122 (by decide) rfl (fun hz => ?_) (fun hz => ?_)
  · have hz2 := of_decide_eq_false hz
    rw [if_neg hz2] at hR3
    refine ks_lconst (x := lN 0) dX9_work_129 (by decide) rfl ?_
    refine ks_lstore_n dX9_work_130 (by decide) rfl ?_
    refine ks_sub [(3, _), (2, _), (0, _)] rfl ?_
    refine ks_iload_n dX9_work_131 rfl rfl ?_
    refine ks_istore dX9_work_132 (by decide) rfl ?_
    refine ks_sub [(5, _), (2, _), (0, _), (3, _)] rfl ?_
    refine ks_sub [(0, _), (3, _), (5, _)] rfl ?_
    exact ks_sub [(5, _), (3, _), (0, _)] rfl (l_work3 hT hN hq rfl hgd hdd (256 - t) t (by omega) S3 gr3 0 hup h46c h47c hgr3 (by rw [hR3, Nat.mod_eq_of_lt (by omega)]) (Nat.div_eq_of_lt (by omega)).symm)
  · have hz2 := of_decide_eq_true hz
    rw [if_pos hz2] at hR3
    refine ks_lconst (x := lN 1) dX9_work_125 (by decide) rfl ?_
    refine ks_goto (tgt := 130) dX9_work_126 (by decide) ?_
    refine ks_lstore_n dX9_work_130 (by decide) rfl ?_
    refine ks_sub [(3, _), (2, _), (0, _)] rfl ?_
    refine ks_iload_n dX9_work_131 rfl rfl ?_
    refine ks_istore dX9_work_132 (by decide) rfl ?_
    refine ks_sub [(5, _), (2, _), (0, _), (3, _)] rfl ?_
    refine ks_sub [(0, _), (3, _), (5, _)] rfl ?_
    have e9 : 2 ^ t = N + 1 := by omega
    exact ks_sub [(5, _), (3, _), (0, _)] rfl (l_work3 hT hN hq rfl hgd hdd (256 - t) t (by omega) S3 gr3 1 hup h46c h47c hgr3 (by rw [hR3, e9, Nat.mod_self, Nat.sub_self]) (by rw [e9, Nat.div_self (by omega)]))
set_option maxRecDepth 100000 in
set_option maxHeartbeats 40000000 in
theorem l_work65 {l : Launch} {G : ks_G} {d : Nat} {S : ks_S} {N : Nat} (hT : tg_ok S N) (hN : N < 2 ^ 256) (hq : 2 ^ 256 / (N + 1) < 2 ^ 63) : ∀ (S1 : ks_S) (gd : Nat → Nat), ks_up S S1 [46, 47] → S1.2.2 46 = some (kB 34 gd) → kO gd → dg 256 gd 34 = N + 1 → (∃ g, kO g ∧ S1.2.2 47 = some (kB 34 g)) → ∀ t, t ≤ 256 → N + 1 < 2 ^ (t + 1) → ks_X l G mX9_work (d + 1) 65 [(2, .int (nI t)), (0, .ref 44)] [] S1 (fun z S' => z = some (.long (lN (2 ^ 256 / (N + 1)))) ∧ ks_up S S' [46, 47] ∧ tg_ok S' N) := by
  intro S1 gd hu h46 hgd hdd h47 t
  have h44 := hu.at hT.1 (by decide)
  induction t with
  | zero =>
    intro ht ht2
    refine ks_iload_n dX9_work_65 rfl rfl ?_
    refine ks_if_leN (tgt := 94) (by decide) dX9_work_66 (by decide) rfl (fun hc => ?_) (fun hc => ?_)
    · exact l_work94 hT hN hq S1 gd 0 hu h46 hgd hdd (by decide) (by rw [Nat.pow_zero]; omega) ht2 h47
    · exact absurd hc (by decide)
  | succ t ih =>
    intro ht ht2
    refine ks_iload_n dX9_work_65 rfl rfl ?_
    refine ks_if_leN (tgt := 94) (by omega) dX9_work_66 (by decide) rfl (fun hc => ?_) (fun hc => ?_)
    · exact absurd hc (by omega)
    · refine ks_aload_n dX9_work_69 rfl rfl ?_
      refine ks_getf (T := TX9) (kf := 1) kx_720 rfl in_X9 cl_X9 (by decide) h44 rfl dX9_work_70 rfl ?_
      refine ks_iload_n dX9_work_73 rfl rfl ?_
      refine ks_bipush (x := nI 8) dX9_work_74 (by decide) rfl ?_
      refine ks_divN (by omega) (by decide) (by decide) dX9_work_76 rfl ?_
      refine ks_baldB (i := (t + 1) / 8) h46 rfl (by omega) (by decide) dX9_work_77 rfl ?_
      refine ks_iload_n dX9_work_78 rfl rfl ?_
      refine ks_bipush (x := nI 8) dX9_work_79 (by decide) rfl ?_
      refine ks_remN (by omega) (by decide) (by decide) dX9_work_81 rfl ?_
      refine ks_iushr dX9_work_82 rfl ?_
      refine ks_iconst (x := nI 1) dX9_work_83 (by decide) rfl ?_
      refine ks_iand dX9_work_84 rfl ?_
      refine ks_ti (y := nI (gd ((t + 1) / 8) / 2 ^ ((t + 1) % 8) % 2)) (wk_bit _ (hgd _) _ (Nat.mod_lt _ (by decide))) ?_
      rw [wk_bD hgd (show (t + 1) / 8 < 34 by omega), hdd]
      refine ks_if_neN (tgt := 94) (by omega) dX9_work_85 (by decide) rfl (fun hx => ?_) (fun hx => ?_)
      · refine l_work94 hT hN hq S1 gd (t + 1) hu h46 hgd hdd ht ?_ ht2 h47
        rcases Nat.lt_or_ge (N + 1) (2 ^ (t + 1)) with h | h
        · rw [Nat.div_eq_of_lt h] at hx; exact absurd rfl hx
        · exact h
      · refine ks_decN (e := t) dX9_work_88 rfl (by decide) (by omega) (by decide) rfl ?_
        refine ks_sub [(2, _), (0, _)] rfl ?_
        refine ks_goto (tgt := 65) dX9_work_91 (by decide) ?_
        refine ks_sub [(2, _), (0, _)] rfl (ih (by omega) ?_)
        rcases Nat.lt_or_ge (N + 1) (2 ^ (t + 1)) with h | h
        · exact h
        · rw [Nat.pow_succ 2 (t + 1)] at ht2
          have e9 : (N + 1) / 2 ^ (t + 1) = 1 := Nat.div_eq_of_lt_le (by omega) (by omega)
          rw [e9] at hx
          exact absurd hx (by decide)
set_option maxRecDepth 100000 in
set_option maxHeartbeats 40000000 in
theorem l_work61 {l : Launch} {G : ks_G} {d : Nat} {S : ks_S} {N : Nat} (hT : tg_ok S N) (hN : N < 2 ^ 256) (hq : 2 ^ 256 / (N + 1) < 2 ^ 63) : ∀ (S1 : ks_S) (gd : Nat → Nat) (i c : Nat), ks_up S S1 [46, 47] → S1.2.2 46 = some (kB 34 gd) → kO gd → dg 256 gd 34 = N + 1 → (∃ g, kO g ∧ S1.2.2 47 = some (kB 34 g)) → ks_X l G mX9_work (d + 1) 61 [(1, .int (nI c)), (2, .int (nI i)), (0, .ref 44)] [] S1 (fun z S' => z = some (.long (lN (2 ^ 256 / (N + 1)))) ∧ ks_up S S' [46, 47] ∧ tg_ok S' N) := by
  intro S1 gd i c hu h46 hgd hdd h47
  refine ks_sipush (x := nI 256) dX9_work_61 (by decide) rfl ?_
  refine ks_istore_n dX9_work_64 (by decide) rfl ?_
  refine ks_sub [(2, _), (1, _), (0, _)] rfl ?_
  refine ks_sub [(2, _), (0, _)] rfl ?_
  refine ks_sub [(2, _), (0, _)] rfl (l_work65 hT hN hq S1 gd hu h46 hgd hdd h47 256 (by decide) ?_)
  rw [Nat.pow_succ]
  omega
set_option maxRecDepth 100000 in
set_option maxHeartbeats 40000000 in
theorem l_work19 {l : Launch} {G : ks_G} {d : Nat} {S : ks_S} {N : Nat} (hT : tg_ok S N) (hN : N < 2 ^ 256) (hq : 2 ^ 256 / (N + 1) < 2 ^ 63) {gv : Nat → Nat} (hd : dg 256 gv 34 = N) : ∀ k i, i + k = 34 → ∀ (S1 : ks_S) (g : Nat → Nat) (c : Nat), ks_up S S1 [46, 47] → S1.2.2 46 = some (kB 34 g) → kO g → c ≤ 1 → (∀ j, i ≤ j → j < 34 → g j = gv j) → dg 256 g i + 256 ^ i * c = dg 256 gv i + 1 → (∃ g, kO g ∧ S1.2.2 47 = some (kB 34 g)) → ks_X l G mX9_work (d + 1) 19 [(2, .int (nI i)), (1, .int (nI c)), (0, .ref 44)] [] S1 (fun z S' => z = some (.long (lN (2 ^ 256 / (N + 1)))) ∧ ks_up S S' [46, 47] ∧ tg_ok S' N) := by
  intro k
  induction k with
  | zero =>
    intro i hi S1 g c hu h46 hg hc1 hj hq9 h47
    have h44 := hu.at hT.1 (by decide)
    refine ks_iload_n dX9_work_19 rfl rfl ?_
    refine ks_bipush (x := nI 34) dX9_work_20 (by decide) rfl ?_
    refine ks_icmp_geN (tgt := 61) (by omega) (by decide) dX9_work_22 (by decide) rfl (fun hc => ?_) (fun hc => ?_)
    · obtain rfl : i = 34 := by omega
      rw [hd] at hq9
      refine ks_sub [(1, _), (2, _), (0, _)] rfl (l_work61 hT hN hq S1 g _ _ hu h46 hg ?_ h47)
      have hN2 : N + 1 ≤ 2 ^ 256 := hN
      clear hq hN
      generalize N + 1 = D at hN2 hq9 ⊢
      rcases Nat.eq_zero_or_pos c with e | e
      · rw [e, Nat.mul_zero, Nat.add_zero] at hq9; exact hq9
      · obtain rfl : c = 1 := by omega
        omega
    · exact absurd (show 34 ≤ i by omega) hc
  | succ k ih =>
    intro i hi S1 g c hu h46 hg hc1 hj hq9 h47
    have h44 := hu.at hT.1 (by decide)
    refine ks_iload_n dX9_work_19 rfl rfl ?_
    refine ks_bipush (x := nI 34) dX9_work_20 (by decide) rfl ?_
    refine ks_icmp_geN (tgt := 61) (by omega) (by decide) dX9_work_22 (by decide) rfl (fun hc => ?_) (fun hc => ?_)
    · exact absurd hc (by omega)
    · refine ks_iload_n dX9_work_25 rfl rfl ?_
      refine ks_if_eqN (tgt := 61) (by omega) dX9_work_26 (by decide) rfl (fun hz => ?_) (fun hz => ?_)
      · subst hz
        refine ks_sub [(1, _), (2, _), (0, _)] rfl (l_work61 hT hN hq S1 g _ _ hu h46 hg ?_ h47)
        rw [Nat.mul_zero, Nat.add_zero] at hq9
        have e5 := dg_tail (B := 256) (n := 34) (by omega) hj
        rw [hd, hq9] at e5
        clear hq hN
        omega
      · obtain rfl : c = 1 := by omega
        have hb9 := hg i
        have e1 := hj i (Nat.le_refl i) (by omega)
        refine ks_aload_n dX9_work_29 rfl rfl ?_
        refine ks_getf (T := TX9) (kf := 1) kx_720 rfl in_X9 cl_X9 (by decide) h44 rfl dX9_work_30 rfl ?_
        refine ks_iload_n dX9_work_33 rfl rfl ?_
        refine ks_dup2_11 dX9_work_34 rfl rfl rfl ?_
        refine ks_baldB (i := i) h46 rfl (by omega) (by decide) dX9_work_35 rfl ?_
        refine ks_iconst (x := nI 1) dX9_work_36 (by decide) rfl ?_
        refine ks_iadd dX9_work_37 rfl ?_
        refine ks_i2b dX9_work_38 rfl ?_
        have hg2 : kO (va_up g i ((1 + g i) % 256)) := kO_up hg (Nat.mod_lt _ (by decide))
        refine ks_bastB (i := i) (c := (1 + g i) % 256) h46 rfl (by omega) (by decide) ((ks_by_i8 _).trans (wk_inc _ (hg i))) dX9_work_39 rfl ?_
        refine ks_aload_n dX9_work_40 rfl rfl ?_
        refine ks_getf (T := TX9) (kf := 1) kx_720 rfl in_X9 cl_X9 (by decide) ((ks_set_ne _ _ (by decide)).trans h44) rfl dX9_work_41 rfl ?_
        refine ks_iload_n dX9_work_44 rfl rfl ?_
        refine ks_baldB (i := i) (ks_set_same _ _ _) rfl (by omega) (by decide) dX9_work_45 rfl ?_
        refine ks_if_neY (tgt := 53) (hg2 _) dX9_work_46 (by decide) rfl (fun hy => ?_) (fun hy => ?_)
        · rw [va_up_self] at hy
          refine ks_iconst (x := nI 0) dX9_work_53 (by decide) rfl ?_
          refine ks_istore_n dX9_work_54 (by decide) rfl ?_
          refine ks_sub [(1, _), (2, _), (0, _)] rfl ?_
          refine ks_incN (c := 1) (e := i + 1) dX9_work_55 rfl (by decide) rfl (by decide) rfl ?_
          refine ks_sub [(2, _), (1, _), (0, _)] rfl ?_
          refine ks_goto (tgt := 19) dX9_work_58 (by decide) ?_
          have e2 := dg_cy (B := 256) (o := va_up g i ((1 + g i) % 256)) (i := i) (c := 1) (t := g i) (X := dg 256 gv i + 1) (by rw [dg_up_out (Nat.le_refl i)]; exact hq9) (va_up_self _ _ _)
          rw [show (1 + g i) / 256 = 0 by omega] at e2
          refine ks_sub [(2, _), (1, _), (0, _)] rfl (ih (i + 1) (by omega) _ _ 0 (hu.trans (ks_up_set _ _ (by decide))) (ks_set_same _ _ _) hg2 (by decide) ?_ ?_ ?_)
          · intro j h1 h2
            rw [va_up_ne _ _ (by omega)]
            exact hj j (by omega) h2
          · rw [e2, dg_s, e1]; omega
          · obtain ⟨gz, hgz, hz7⟩ := h47
            exact ⟨gz, hgz, (ks_set_ne _ _ (by decide)).trans hz7⟩
        · rw [va_up_self] at hy
          refine ks_iconst (x := nI 1) dX9_work_49 (by decide) rfl ?_
          refine ks_goto (tgt := 54) dX9_work_50 (by decide) ?_
          refine ks_istore_n dX9_work_54 (by decide) rfl ?_
          refine ks_sub [(1, _), (2, _), (0, _)] rfl ?_
          refine ks_incN (c := 1) (e := i + 1) dX9_work_55 rfl (by decide) rfl (by decide) rfl ?_
          refine ks_sub [(2, _), (1, _), (0, _)] rfl ?_
          refine ks_goto (tgt := 19) dX9_work_58 (by decide) ?_
          have e2 := dg_cy (B := 256) (o := va_up g i ((1 + g i) % 256)) (i := i) (c := 1) (t := g i) (X := dg 256 gv i + 1) (by rw [dg_up_out (Nat.le_refl i)]; exact hq9) (va_up_self _ _ _)
          rw [show (1 + g i) / 256 = 1 by omega] at e2
          refine ks_sub [(2, _), (1, _), (0, _)] rfl (ih (i + 1) (by omega) _ _ 1 (hu.trans (ks_up_set _ _ (by decide))) (ks_set_same _ _ _) hg2 (by decide) ?_ ?_ ?_)
          · intro j h1 h2
            rw [va_up_ne _ _ (by omega)]
            exact hj j (by omega) h2
          · rw [e2, dg_s, e1]; omega
          · obtain ⟨gz, hgz, hz7⟩ := h47
            exact ⟨gz, hgz, (ks_set_ne _ _ (by decide)).trans hz7⟩
set_option maxRecDepth 100000 in
set_option maxHeartbeats 40000000 in
theorem c_work {l : Launch} {G : ks_G} {d : Nat} {S : ks_S} {N : Nat} (hT : tg_ok S N) (hN : N < 2 ^ 256) (hq : 2 ^ 256 / (N + 1) < 2 ^ 63) : ks_P l G yX9_work mX9_work (d + 1) [.ref 44] S (fun z S' => z = some (.long (lN (2 ^ 256 / (N + 1)))) ∧ ks_up S S' [46, 47] ∧ tg_ok S' N) := by
  obtain ⟨gv, hgv, hv, hd⟩ := hT.2.1
  obtain ⟨g6, hg6, hdv⟩ := hT.2.2.1
  obtain ⟨g7, hg7, hre⟩ := hT.2.2.2
  refine ks_of (by decide) rfl rfl (Nat.le_of_ble_eq_true rfl) ?_
  show ks_X l G mX9_work (d + 1) 0 [(0, .ref 44)] [] S _
  refine ks_aload_n dX9_work_0 rfl rfl ?_
  refine ks_getf (T := TX9) (kf := 0) kx_719 rfl in_X9 cl_X9 (by decide) hT.1 rfl dX9_work_1 rfl ?_
  refine ks_iconst (x := nI 0) dX9_work_4 (by decide) rfl ?_
  refine ks_aload_n dX9_work_5 rfl rfl ?_
  refine ks_getf (T := TX9) (kf := 1) kx_720 rfl in_X9 cl_X9 (by decide) hT.1 rfl dX9_work_6 rfl ?_
  refine ks_iconst (x := nI 0) dX9_work_9 (by decide) rfl ?_
  refine ks_bipush (x := nI 34) dX9_work_10 (by decide) rfl ?_
  refine ks_copyB (n := 34) (dp := 0) (sp := 0) hv hdv rfl rfl rfl (by omega) (by omega) (by decide) (by decide) kx_1015 kx_275 kx_274 kx_17 (by omega) (Nat.le_of_ble_eq_true rfl) dX9_work_12 rfl ?_
  refine ks_iconst (x := nI 1) dX9_work_15 (by decide) rfl ?_
  refine ks_istore_n dX9_work_16 (by decide) rfl ?_
  refine ks_sub [(1, _), (0, _)] rfl ?_
  refine ks_iconst (x := nI 0) dX9_work_17 (by decide) rfl ?_
  refine ks_istore_n dX9_work_18 (by decide) rfl ?_
  refine ks_sub [(2, _), (0, _), (1, _)] rfl ?_
  have hu0 : ks_up S (ks_set S 46 (kB 34 (va_cpy gv g6 0 0 34))) [46, 47] := ks_up_set _ _ (by decide)
  refine ks_sub [(2, _), (1, _), (0, _)] rfl (l_work19 hT hN hq hd 34 0 rfl _ (va_cpy gv g6 0 0 34) 1 hu0 (ks_set_same _ _ _) (kO_cpy hgv hg6 _ _ _) (by decide) ?_ (by simp [dg]) ⟨g7, hg7, (ks_set_ne _ _ (by decide)).trans hre⟩)
  intro j _ e
  rw [pk_cpy_in (by omega) (by omega)]; congr 1; omega
