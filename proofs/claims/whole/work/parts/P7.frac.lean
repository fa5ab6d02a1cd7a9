/-! THE REFERENCE: roots of primes -/
def frV (c : Bool) (t : Nat) : Nat := if c = true then t * t * t / 2 ^ 96 else t * t / 2 ^ 64
def frL (p : Nat) (c : Bool) : Nat → Nat → Nat
  | 0, r => r
  | b + 1, r => if frV c (r + 2 ^ b) < p then frL p c b (r + 2 ^ b) else frL p c b r
theorem lor_sw {a b k p : Nat} (hp : 2 ^ k = p) (hb : b < p) (h : a * p + b < 2 ^ 64) : lN b ||| lN (a * p) = lN (a * p + b) := (Int64.or_comm _ _).trans (g_or hp hb h)
theorem dv_top {Y W Q : Nat} (h : Y < Q) : (Y + W * Q) / Q = W := by
  rw [Nat.add_mul_div_right _ _ (by omega), Nat.div_eq_of_lt h, Nat.zero_add]
theorem fr_sq {f : Nat → Nat} {t : Nat} (hf : ∀ j, j < 6 → f j < 65536) (h : dg 65536 f 6 = t * t) : t * t / 2 ^ 64 = f 5 * 2 ^ 16 + f 4 := by
  have h4 : dg 65536 f 4 < 65536 ^ 4 := dg_lt (B := 65536) (fun j hj => hf j (by omega))
  rw [← h, show dg 65536 f 6 = dg 65536 f 4 + (f 5 * 2 ^ 16 + f 4) * 65536 ^ 4 from by rw [dg_s 65536 f 5, dg_s 65536 f 4]; omega]
  exact dv_top h4
theorem fr_cu {f : Nat → Nat} {t : Nat} (hf : ∀ j, j < 9 → f j < 65536) (h : dg 65536 f 9 = t * t * t) : t * t * t / 2 ^ 96 = f 8 * 2 ^ 32 + (f 7 * 2 ^ 16 + f 6) := by
  have h6 : dg 65536 f 6 < 65536 ^ 6 := dg_lt (B := 65536) (fun j hj => hf j (by omega))
  rw [← h, show dg 65536 f 9 = dg 65536 f 6 + (f 8 * 2 ^ 32 + (f 7 * 2 ^ 16 + f 6)) * 65536 ^ 6 from by rw [dg_s 65536 f 8, dg_s 65536 f 7, dg_s 65536 f 6]; omega]
  exact dv_top h6
set_option maxRecDepth 100000 in
set_option maxHeartbeats 1600000 in
theorem l_fr0 {l : Launch} {G : ks_G} {d : Nat} {S : ks_S} {V : Nat → Value} {p : Nat} (hO : S.2.2 290 = some (rfE V)) (hp : p < 30000) : ∀ (b a : Nat) (S1 : ks_S) (f6 f7 f8 : Nat → Nat), b ≤ 36 → (a + 1) * 2 ^ b ≤ 2 ^ 36 → frL p false b (a * 2 ^ b) = frL p false 36 0 → ks_up S S1 [296, 297, 298] → S1.2.2 296 = some (kL 3 f6) → S1.2.2 297 = some (kL 6 f7) → S1.2.2 298 = some (kL 9 f8) → ks_X l G mX16_fraction (d + 1) 6 [(0, .ref 290), (1, .int (nI p)), (2, .int (nI 0)), (3, .long (lN (a * 2 ^ b))), (5, .int (nI b - 1))] [] S1 (fun z S' => z = some (.int (nI (frL p false 36 0))) ∧ ks_up S S' [296, 297, 298] ∧ (∃ f, S'.2.2 296 = some (kL 3 f)) ∧ (∃ f, S'.2.2 297 = some (kL 6 f)) ∧ ∃ f, S'.2.2 298 = some (kL 9 f)) := by
  intro b
  induction b with
  | zero =>
    intro a S1 f6 f7 f8 hb hI hf hu e6 e7 e8
    have o1 := hu.at hO (by decide)
    refine ks_iload dX16_fraction_6 rfl rfl ?_
    refine ks_if_ltD (tgt := 151) (by omega) dX16_fraction_8 (by decide) rfl (fun h1 => ?_) (fun h1 => absurd h1 (by omega))
    refine ks_lload_n dX16_fraction_151 rfl rfl ?_
    refine ks_l2iN dX16_fraction_152 rfl ?_
    refine ks_iret rfl dX16_fraction_153 ?_
    exact ⟨by rw [← hf]; rfl, hu, ⟨_, e6⟩, ⟨_, e7⟩, _, e8⟩
  | succ b ih =>
    intro a S1 f6 f7 f8 hb hI hf hu e6 e7 e8
    have o1 := hu.at hO (by decide)
    refine ks_iload dX16_fraction_6 rfl rfl ?_
    refine ks_if_ltD (tgt := 151) (by omega) dX16_fraction_8 (by decide) rfl (fun h1 => absurd h1 (by omega)) (fun h1 => ?_)
    refine ks_sub [(0, _), (1, _), (2, _), (3, _), (5, .int (nI b))] (by rw [← nI_pred b]; rfl) ?_
    have hpw : 2 ^ (b + 1) = 2 ^ b * 2 := Nat.pow_succ _ _
    have hW : 0 < 2 ^ b := Nat.two_pow_pos b
    have hI2 : (a + 1) * 2 ^ (b + 1) = a * 2 ^ (b + 1) + 2 ^ (b + 1) := by rw [Nat.add_mul, Nat.one_mul]
    refine ks_lload_n dX16_fraction_11 rfl rfl ?_
    refine ks_lconst (x := lN 1) dX16_fraction_12 (by decide) rfl ?_
    refine ks_iload dX16_fraction_13 rfl rfl ?_
    refine ks_lshlN (k := b) (by omega) dX16_fraction_15 rfl ?_
    refine ks_lorN (a := a) (k := b + 1) (p := 2 ^ (b + 1)) rfl (by omega) (by omega) dX16_fraction_16 rfl ?_
    obtain ⟨t, et⟩ : ∃ t, t = a * 2 ^ (b + 1) + 1 * 2 ^ b := ⟨_, rfl⟩
    rw [← et]
    have ht : t < 2 ^ 36 := by omega
    have et2 : a * 2 ^ (b + 1) + 2 ^ b = t := by rw [et, Nat.one_mul]
    have et3 : t = (2 * a + 1) * 2 ^ b := by
      rw [← et2, hpw, Nat.add_mul, Nat.one_mul, Nat.mul_comm (2 ^ b) 2, ← Nat.mul_assoc, Nat.mul_comm a 2]
    have ea2 : a * 2 ^ (b + 1) = 2 * a * 2 ^ b := by rw [hpw, Nat.mul_comm (2 ^ b) 2, ← Nat.mul_assoc, Nat.mul_comm a 2]
    rw [show frL p false (b + 1) (a * 2 ^ (b + 1)) = if frV false (a * 2 ^ (b + 1) + 2 ^ b) < p then frL p false b (a * 2 ^ (b + 1) + 2 ^ b) else frL p false b (a * 2 ^ (b + 1)) from rfl, et2] at hf
    refine ks_lstore dX16_fraction_17 (by decide) rfl ?_
    refine ks_sub [(6, _), (0, _), (1, _), (2, _), (3, _), (5, _)] rfl ?_
    refine ks_iconst (x := nI 0) dX16_fraction_19 (by decide) rfl ?_
    refine ks_istore dX16_fraction_20 (by decide) rfl ?_
    refine ks_sub [(8, _), (0, _), (1, _), (2, _), (3, _), (5, _), (6, _)] rfl ?_
    refine ks_iload dX16_fraction_22 rfl rfl ?_
    refine ks_iconst (x := nI 3) dX16_fraction_24 (by decide) rfl ?_
    refine ks_icmp_geN (tgt := 53) (by decide) (by decide) dX16_fraction_25 (by decide) rfl (fun hc25 => ?_) (fun hc25 => ?_)
    · exact absurd hc25 (by decide)
    · refine ks_aload_n dX16_fraction_28 rfl rfl ?_
      refine ks_getf (T := TX16) (kf := 5) kx_2373 rfl in_X16 cl_X16 (by decide) o1 rfl dX16_fraction_29 rfl ?_
      refine ks_iload dX16_fraction_32 rfl rfl ?_
      refine ks_lload dX16_fraction_34 rfl rfl ?_
      refine ks_bipush (x := nI 16) dX16_fraction_36 (by decide) rfl ?_
      refine ks_iload dX16_fraction_38 rfl rfl ?_
      refine ks_mulN dX16_fraction_40 rfl ?_
      refine ks_ti (y := nI 0) rfl ?_
      refine ks_lshrN (k := 0) (by decide) (by decide) (by omega) dX16_fraction_41 rfl ?_
      refine ks_ldc2 dX16_fraction_42 kx_1912 rfl ?_
      refine ks_tl (y := lN 65535) rfl ?_
      refine ks_landN (k := 16) (p := 65536) (by decide) (by decide) (by decide) (by omega) dX16_fraction_45 rfl ?_
      refine ks_lastNN (i := 0) (v := (t / 2 ^ 0) % 65536) e6 (by decide) (by decide) dX16_fraction_46 rfl ?_
      refine ks_incN (c := 1) (e := 1) dX16_fraction_47 rfl (by decide) rfl (by decide) rfl ?_
      refine ks_sub [(8, _), (0, _), (1, _), (2, _), (3, _), (5, _), (6, _)] rfl ?_
      refine ks_goto (tgt := 22) dX16_fraction_50 (by decide) ?_
      refine ks_iload dX16_fraction_22 rfl rfl ?_
      refine ks_iconst (x := nI 3) dX16_fraction_24 (by decide) rfl ?_
      refine ks_icmp_geN (tgt := 53) (by decide) (by decide) dX16_fraction_25 (by decide) rfl (fun hc25 => ?_) (fun hc25 => ?_)
      · exact absurd hc25 (by decide)
      · refine ks_aload_n dX16_fraction_28 rfl rfl ?_
        refine ks_getf (T := TX16) (kf := 5) kx_2373 rfl in_X16 cl_X16 (by decide) ((ks_set_ne _ _ (by decide)).trans o1) rfl dX16_fraction_29 rfl ?_
        refine ks_iload dX16_fraction_32 rfl rfl ?_
        refine ks_lload dX16_fraction_34 rfl rfl ?_
        refine ks_bipush (x := nI 16) dX16_fraction_36 (by decide) rfl ?_
        refine ks_iload dX16_fraction_38 rfl rfl ?_
        refine ks_mulN dX16_fraction_40 rfl ?_
        refine ks_ti (y := nI 16) rfl ?_
        refine ks_lshrN (k := 16) (by decide) (by decide) (by omega) dX16_fraction_41 rfl ?_
        refine ks_ldc2 dX16_fraction_42 kx_1912 rfl ?_
        refine ks_tl (y := lN 65535) rfl ?_
        refine ks_landN (k := 16) (p := 65536) (by decide) (by decide) (by decide) (by omega) dX16_fraction_45 rfl ?_
        refine ks_lastNN (i := 1) (v := (t / 2 ^ 16) % 65536) (ks_set_same _ _ _) (by decide) (by decide) dX16_fraction_46 rfl ?_
        refine ks_incN (c := 1) (e := 2) dX16_fraction_47 rfl (by decide) rfl (by decide) rfl ?_
        refine ks_sub [(8, _), (0, _), (1, _), (2, _), (3, _), (5, _), (6, _)] rfl ?_
        refine ks_goto (tgt := 22) dX16_fraction_50 (by decide) ?_
        refine ks_iload dX16_fraction_22 rfl rfl ?_
        refine ks_iconst (x := nI 3) dX16_fraction_24 (by decide) rfl ?_
        refine ks_icmp_geN (tgt := 53) (by decide) (by decide) dX16_fraction_25 (by decide) rfl (fun hc25 => ?_) (fun hc25 => ?_)
        · exact absurd hc25 (by decide)
        · refine ks_aload_n dX16_fraction_28 rfl rfl ?_
          refine ks_getf (T := TX16) (kf := 5) kx_2373 rfl in_X16 cl_X16 (by decide) ((ks_set_ne _ _ (by decide)).trans ((ks_set_ne _ _ (by decide)).trans o1)) rfl dX16_fraction_29 rfl ?_
          refine ks_iload dX16_fraction_32 rfl rfl ?_
          refine ks_lload dX16_fraction_34 rfl rfl ?_
          refine ks_bipush (x := nI 16) dX16_fraction_36 (by decide) rfl ?_
          refine ks_iload dX16_fraction_38 rfl rfl ?_
          refine ks_mulN dX16_fraction_40 rfl ?_
          refine ks_ti (y := nI 32) rfl ?_
          refine ks_lshrN (k := 32) (by decide) (by decide) (by omega) dX16_fraction_41 rfl ?_
          refine ks_ldc2 dX16_fraction_42 kx_1912 rfl ?_
          refine ks_tl (y := lN 65535) rfl ?_
          refine ks_landN (k := 16) (p := 65536) (by decide) (by decide) (by decide) (by omega) dX16_fraction_45 rfl ?_
          refine ks_lastNN (i := 2) (v := (t / 2 ^ 32) % 65536) (ks_set_same _ _ _) (by decide) (by decide) dX16_fraction_46 rfl ?_
          refine ks_incN (c := 1) (e := 3) dX16_fraction_47 rfl (by decide) rfl (by decide) rfl ?_
          refine ks_sub [(8, _), (0, _), (1, _), (2, _), (3, _), (5, _), (6, _)] rfl ?_
          refine ks_goto (tgt := 22) dX16_fraction_50 (by decide) ?_
          refine ks_iload dX16_fraction_22 rfl rfl ?_
          refine ks_iconst (x := nI 3) dX16_fraction_24 (by decide) rfl ?_
          refine ks_icmp_geN (tgt := 53) (by decide) (by decide) dX16_fraction_25 (by decide) rfl (fun hc25 => ?_) (fun hc25 => ?_)
          · refine ks_nm (fun T1 e9 => ?_)
            have u1 : ks_up S1 T1 [296] := by rw [e9]; exact ks_upL (ks_upL (ks_up_set _ _ (List.mem_singleton.mpr rfl)) (List.mem_singleton.mpr rfl)) (List.mem_singleton.mpr rfl)
            obtain ⟨g, eg⟩ : ∃ v, v = (va_up (va_up (va_up f6 0 ((t / 2 ^ 0) % 65536)) 1 ((t / 2 ^ 16) % 65536)) 2 ((t / 2 ^ 32) % 65536)) := ⟨_, rfl⟩
            have y1 : T1.2.2 296 = some (kL 3 g) := by rw [e9, eg]; exact ks_set_same _ _ _
            clear e9
            have g0 : g 0 = t % 65536 := by rw [eg]; show t / 2 ^ 0 % 65536 = _; rw [Nat.pow_zero, Nat.div_one]
            have g1 : g 1 = t / 65536 % 65536 := by rw [eg]; rfl
            have g2 : g 2 = t / 4294967296 % 65536 := by rw [eg]; rfl
            have hg : ∀ j, j < 3 → g j < 65536 := fun j hj => by
              rcases (show j = 0 ∨ j = 1 ∨ j = 2 by omega) with rfl | rfl | rfl <;> omega
            have dg3 : dg 65536 g 3 = t := by
              rw [dg_s, dg_s, dg_s, show dg 65536 g 0 = 0 from rfl, g0, g1, g2]
              omega
            have o2 := u1.at o1 (by decide)
            refine ks_sub [(0, _), (1, _), (2, _), (3, _), (5, _), (6, _)] rfl ?_
            refine ks_aload_n dX16_fraction_53 rfl rfl ?_
            refine ks_aload_n dX16_fraction_54 rfl rfl ?_
            refine ks_getf (T := TX16) (kf := 5) kx_2373 rfl in_X16 cl_X16 (by decide) o2 rfl dX16_fraction_55 rfl ?_
            refine ks_iconst (x := nI 3) dX16_fraction_58 (by decide) rfl ?_
            refine ks_aload_n dX16_fraction_59 rfl rfl ?_
            refine ks_getf (T := TX16) (kf := 6) kx_2374 rfl in_X16 cl_X16 (by decide) o2 rfl dX16_fraction_60 rfl ?_
            refine ks_callV (n := 3) (M' := mX16_times) (c_md_timesR (d := d) (na := 3) (nb := 6) (k := 3) o2 y1 y1 (by decide) (by decide) (by decide) (by decide) (by decide) (by decide) (by decide) (by decide) hg hg (u1.at e7 (by decide))) o2 cl_X16 rfl kx_1913 kx_1915 kxp_51 kx_30 kx_1916 (by decide +kernel) rfl (by decide) (Nat.le_of_ble_eq_true rfl) rfl dX16_fraction_63 rfl (fun z2 T2 y2 => ?_)
            obtain ⟨rfl, q2, u2, y2, b2, d2⟩ := y2
            rw [dg3] at d2
            have o3 := u2.at o2 (by decide)
            refine ks_aload_n dX16_fraction_66 rfl rfl ?_
            refine ks_aload_n dX16_fraction_67 rfl rfl ?_
            refine ks_getf (T := TX16) (kf := 6) kx_2374 rfl in_X16 cl_X16 (by decide) o3 rfl dX16_fraction_68 rfl ?_
            refine ks_bipush (x := nI 6) dX16_fraction_71 (by decide) rfl ?_
            refine ks_aload_n dX16_fraction_73 rfl rfl ?_
            refine ks_getf (T := TX16) (kf := 7) kx_2375 rfl in_X16 cl_X16 (by decide) o3 rfl dX16_fraction_74 rfl ?_
            refine ks_callV (n := 3) (M' := mX16_times) (c_md_timesR (d := d) (na := 6) (nb := 9) (k := 6) o3 y2 (u2.at y1 (by decide)) (by decide) (by decide) (by decide) (by decide) (by decide) (by decide) (by decide) (by decide) b2 hg (u2.at (u1.at e8 (by decide)) (by decide))) o3 cl_X16 rfl kx_1913 kx_1915 kxp_51 kx_30 kx_1916 (by decide +kernel) rfl (by decide) (Nat.le_of_ble_eq_true rfl) rfl dX16_fraction_77 rfl (fun z3 T3 y3 => ?_)
            obtain ⟨rfl, q3, u3, y3, b3, d3⟩ := y3
            rw [show dg 65536 q2 6 = t * t from d2, dg3] at d3
            have o4 := u3.at o3 (by decide)
            have y24 := u3.at y2 (by decide)
            have U4 : ks_up S T3 [296, 297, 298] := ((hu.trans (u1.mono (by decide))).trans (u2.mono (by decide))).trans (u3.mono (by decide))
            have x6 := u3.at (u2.at y1 (by decide)) (by decide)
            have c4 := b2 4 (by decide)
            have c5 := b2 5 (by decide)
            have ev : frV false t = q2 5 * 2 ^ 16 + q2 4 := fr_sq b2 d2
            have evl : frV false t < 2 ^ 62 := by rw [ev]; omega
            refine ks_iload_n dX16_fraction_80 rfl rfl ?_
            refine ks_if_eqN (tgt := 116) (by decide) dX16_fraction_81 (by decide) rfl (fun hc81 => ?_) (fun hc81 => ?_)
            · refine ks_aload_n dX16_fraction_116 rfl rfl ?_
              refine ks_getf (T := TX16) (kf := 6) kx_2374 rfl in_X16 cl_X16 (by decide) o4 rfl dX16_fraction_117 rfl ?_
              refine ks_iconst (x := nI 4) dX16_fraction_120 (by decide) rfl ?_
              refine ks_laldN (i := 4) y24 rfl (by decide) (by decide) dX16_fraction_121 rfl ?_
              refine ks_aload_n dX16_fraction_122 rfl rfl ?_
              refine ks_getf (T := TX16) (kf := 6) kx_2374 rfl in_X16 cl_X16 (by decide) o4 rfl dX16_fraction_123 rfl ?_
              refine ks_iconst (x := nI 5) dX16_fraction_126 (by decide) rfl ?_
              refine ks_laldN (i := 5) y24 rfl (by decide) (by decide) dX16_fraction_127 rfl ?_
              refine ks_bipush (x := nI 16) dX16_fraction_128 (by decide) rfl ?_
              refine ks_lshlN (k := 16) (by decide) dX16_fraction_130 rfl ?_
              refine ks_lor dX16_fraction_131 rfl ?_
              refine ks_tl (lor_sw (a := q2 5) (k := 16) (p := 2 ^ 16) rfl (by omega) (by omega)) ?_
              rw [← ev]
              refine ks_lstore dX16_fraction_132 (by decide) rfl ?_
              refine ks_sub [(8, _), (0, _), (1, _), (2, _), (3, _), (5, _), (6, _)] rfl ?_
              refine ks_lload dX16_fraction_134 rfl rfl ?_
              refine ks_iload_n dX16_fraction_136 rfl rfl ?_
              refine ks_i2lN (by omega) dX16_fraction_137 rfl ?_
              refine ks_lif_geN (tgt := 145) (by omega) (by omega) dX16_fraction_138 rfl dX16_fraction_139 (by decide) rfl (fun hq8 => ?_) (fun hq8 => ?_)
              · have hq9 : ¬ frV false t < p := by omega
                refine ks_incD dX16_fraction_145 rfl (by decide) (by decide) rfl ?_
                refine ks_sub [(5, _), (0, _), (1, _), (2, _), (3, _), (6, _), (8, _)] rfl ?_
                refine ks_goto (tgt := 6) dX16_fraction_148 (by decide) ?_
                rw [if_neg hq9, ea2] at hf
                refine ks_sub [(0, _), (1, _), (2, _), (3, .long (lN (2 * a * 2 ^ b))), (5, _)] (by rw [← ea2]; rfl) (ih (2 * a) T3 g q2 q3 (by omega) ?_ hf U4 x6 y24 y3)
                have : (2 * a + 1) * 2 ^ b = a * 2 ^ (b + 1) + 2 ^ b := by rw [ea2, Nat.add_mul, Nat.one_mul]
                omega
              · have hq9 : frV false t < p := by omega
                refine ks_lload dX16_fraction_142 rfl rfl ?_
                refine ks_lstore_n dX16_fraction_144 (by decide) rfl ?_
                refine ks_sub [(3, _), (0, _), (1, _), (2, _), (5, _), (6, _), (8, _)] rfl ?_
                refine ks_incD dX16_fraction_145 rfl (by decide) (by decide) rfl ?_
                refine ks_sub [(5, _), (0, _), (1, _), (2, _), (3, _), (6, _), (8, _)] rfl ?_
                refine ks_goto (tgt := 6) dX16_fraction_148 (by decide) ?_
                rw [if_pos hq9] at hf
                rw [et3] at hf
                refine ks_sub [(0, _), (1, _), (2, _), (3, .long (lN ((2 * a + 1) * 2 ^ b))), (5, _)] (by rw [← et3]; rfl) (ih (2 * a + 1) T3 g q2 q3 (by omega) ?_ hf U4 x6 y24 y3)
                have : (2 * a + 1 + 1) * 2 ^ b = (a + 1) * 2 ^ (b + 1) := by rw [hpw, Nat.mul_comm (2 ^ b) 2, ← Nat.mul_assoc]; congr 1; omega
                omega
            · exact absurd hc81 (by decide)
          · exact absurd hc25 (by decide)
set_option maxRecDepth 100000 in
set_option maxHeartbeats 800000 in
theorem c_md_fraction0 {l : Launch} {G : ks_G} {d : Nat} {S : ks_S} {V : Nat → Value} {p : Nat} {f6 f7 f8 : Nat → Nat} (hO : S.2.2 290 = some (rfE V)) (hp : p < 30000) (e6 : S.2.2 296 = some (kL 3 f6)) (e7 : S.2.2 297 = some (kL 6 f7)) (e8 : S.2.2 298 = some (kL 9 f8)) : ks_P l G yX16_fraction mX16_fraction (d + 1) [.ref 290, .int (nI p), .int (nI 0)] S (fun z S' => z = some (.int (nI (frL p false 36 0))) ∧ ks_up S S' [296, 297, 298] ∧ (∃ f, S'.2.2 296 = some (kL 3 f)) ∧ (∃ f, S'.2.2 297 = some (kL 6 f)) ∧ ∃ f, S'.2.2 298 = some (kL 9 f)) := by
  refine ks_of (by decide) rfl rfl (Nat.le_of_ble_eq_true rfl) ?_
  show ks_X l G mX16_fraction (d + 1) 0 [(0, .ref 290), (1, .int (nI p)), (2, .int (nI 0))] [] S _
  refine ks_lconst (x := lN 0) dX16_fraction_0 (by decide) rfl ?_
  refine ks_lstore_n dX16_fraction_1 (by decide) rfl ?_
  refine ks_sub [(3, _), (0, _), (1, _), (2, _)] rfl ?_
  refine ks_bipush (x := nI 35) dX16_fraction_2 (by decide) rfl ?_
  refine ks_istore dX16_fraction_4 (by decide) rfl ?_
  refine ks_sub [(5, _), (0, _), (1, _), (2, _), (3, _)] rfl ?_
  exact ks_sub [(0, _), (1, _), (2, _), (3, .long (lN (0 * 2 ^ 36))), (5, .int (nI 36 - 1))] rfl (l_fr0 hO hp 36 0 S f6 f7 f8 (by decide) (by decide) (by rw [Nat.zero_mul]) (ks_up.rf _ _) e6 e7 e8)
set_option maxRecDepth 100000 in
set_option maxHeartbeats 1600000 in
theorem l_fr1 {l : Launch} {G : ks_G} {d : Nat} {S : ks_S} {V : Nat → Value} {p : Nat} (hO : S.2.2 290 = some (rfE V)) (hp : p < 30000) : ∀ (b a : Nat) (S1 : ks_S) (f6 f7 f8 : Nat → Nat), b ≤ 36 → (a + 1) * 2 ^ b ≤ 2 ^ 36 → frL p true b (a * 2 ^ b) = frL p true 36 0 → ks_up S S1 [296, 297, 298] → S1.2.2 296 = some (kL 3 f6) → S1.2.2 297 = some (kL 6 f7) → S1.2.2 298 = some (kL 9 f8) → ks_X l G mX16_fraction (d + 1) 6 [(0, .ref 290), (1, .int (nI p)), (2, .int (nI 1)), (3, .long (lN (a * 2 ^ b))), (5, .int (nI b - 1))] [] S1 (fun z S' => z = some (.int (nI (frL p true 36 0))) ∧ ks_up S S' [296, 297, 298] ∧ (∃ f, S'.2.2 296 = some (kL 3 f)) ∧ (∃ f, S'.2.2 297 = some (kL 6 f)) ∧ ∃ f, S'.2.2 298 = some (kL 9 f)) := by
  intro b
  induction b with
  | zero =>
    intro a S1 f6 f7 f8 hb hI hf hu e6 e7 e8
    have o1 := hu.at hO (by decide)
    refine ks_iload dX16_fraction_6 rfl rfl ?_
    refine ks_if_ltD (tgt := 151) (by omega) dX16_fraction_8 (by decide) rfl (fun h1 => ?_) (fun h1 => absurd h1 (by omega))
    refine ks_lload_n dX16_fraction_151 rfl rfl ?_
    refine ks_l2iN dX16_fraction_152 rfl ?_
    refine ks_iret rfl dX16_fraction_153 ?_
    exact ⟨by rw [← hf]; rfl, hu, ⟨_, e6⟩, ⟨_, e7⟩, _, e8⟩
  | succ b ih =>
    intro a S1 f6 f7 f8 hb hI hf hu e6 e7 e8
    have o1 := hu.at hO (by decide)
    refine ks_iload dX16_fraction_6 rfl rfl ?_
    refine ks_if_ltD (tgt := 151) (by omega) dX16_fraction_8 (by decide) rfl (fun h1 => absurd h1 (by omega)) (fun h1 => ?_)
    refine ks_sub [(0, _), (1, _), (2, _), (3, _), (5, .int (nI b))] (by rw [← nI_pred b]; rfl) ?_
    have hpw : 2 ^ (b + 1) = 2 ^ b * 2 := Nat.pow_succ _ _
    have hW : 0 < 2 ^ b := Nat.two_pow_pos b
    have hI2 : (a + 1) * 2 ^ (b + 1) = a * 2 ^ (b + 1) + 2 ^ (b + 1) := by rw [Nat.add_mul, Nat.one_mul]
    refine ks_lload_n dX16_fraction_11 rfl rfl ?_
    refine ks_lconst (x := lN 1) dX16_fraction_12 (by decide) rfl ?_
    refine ks_iload dX16_fraction_13 rfl rfl ?_
    refine ks_lshlN (k := b) (by omega) dX16_fraction_15 rfl ?_
    refine ks_lorN (a := a) (k := b + 1) (p := 2 ^ (b + 1)) rfl (by omega) (by omega) dX16_fraction_16 rfl ?_
    obtain ⟨t, et⟩ : ∃ t, t = a * 2 ^ (b + 1) + 1 * 2 ^ b := ⟨_, rfl⟩
    rw [← et]
    have ht : t < 2 ^ 36 := by omega
    have et2 : a * 2 ^ (b + 1) + 2 ^ b = t := by rw [et, Nat.one_mul]
    have et3 : t = (2 * a + 1) * 2 ^ b := by
      rw [← et2, hpw, Nat.add_mul, Nat.one_mul, Nat.mul_comm (2 ^ b) 2, ← Nat.mul_assoc, Nat.mul_comm a 2]
    have ea2 : a * 2 ^ (b + 1) = 2 * a * 2 ^ b := by rw [hpw, Nat.mul_comm (2 ^ b) 2, ← Nat.mul_assoc, Nat.mul_comm a 2]
    rw [show frL p true (b + 1) (a * 2 ^ (b + 1)) = if frV true (a * 2 ^ (b + 1) + 2 ^ b) < p then frL p true b (a * 2 ^ (b + 1) + 2 ^ b) else frL p true b (a * 2 ^ (b + 1)) from rfl, et2] at hf
    refine ks_lstore dX16_fraction_17 (by decide) rfl ?_
    refine ks_sub [(6, _), (0, _), (1, _), (2, _), (3, _), (5, _)] rfl ?_
    refine ks_iconst (x := nI 0) dX16_fraction_19 (by decide) rfl ?_
    refine ks_istore dX16_fraction_20 (by decide) rfl ?_
    refine ks_sub [(8, _), (0, _), (1, _), (2, _), (3, _), (5, _), (6, _)] rfl ?_
    refine ks_iload dX16_fraction_22 rfl rfl ?_
    refine ks_iconst (x := nI 3) dX16_fraction_24 (by decide) rfl ?_
    refine ks_icmp_geN (tgt := 53) (by decide) (by decide) dX16_fraction_25 (by decide) rfl (fun hc25 => ?_) (fun hc25 => ?_)
    · exact absurd hc25 (by decide)
    · refine ks_aload_n dX16_fraction_28 rfl rfl ?_
      refine ks_getf (T := TX16) (kf := 5) kx_2373 rfl in_X16 cl_X16 (by decide) o1 rfl dX16_fraction_29 rfl ?_
      refine ks_iload dX16_fraction_32 rfl rfl ?_
      refine ks_lload dX16_fraction_34 rfl rfl ?_
      refine ks_bipush (x := nI 16) dX16_fraction_36 (by decide) rfl ?_
      refine ks_iload dX16_fraction_38 rfl rfl ?_
      refine ks_mulN dX16_fraction_40 rfl ?_
      refine ks_ti (y := nI 0) rfl ?_
      refine ks_lshrN (k := 0) (by decide) (by decide) (by omega) dX16_fraction_41 rfl ?_
      refine ks_ldc2 dX16_fraction_42 kx_1912 rfl ?_
      refine ks_tl (y := lN 65535) rfl ?_
      refine ks_landN (k := 16) (p := 65536) (by decide) (by decide) (by decide) (by omega) dX16_fraction_45 rfl ?_
      refine ks_lastNN (i := 0) (v := (t / 2 ^ 0) % 65536) e6 (by decide) (by decide) dX16_fraction_46 rfl ?_
      refine ks_incN (c := 1) (e := 1) dX16_fraction_47 rfl (by decide) rfl (by decide) rfl ?_
      refine ks_sub [(8, _), (0, _), (1, _), (2, _), (3, _), (5, _), (6, _)] rfl ?_
      refine ks_goto (tgt := 22) dX16_fraction_50 (by decide) ?_
      refine ks_iload dX16_fraction_22 rfl rfl ?_
      refine ks_iconst (x := nI 3) dX16_fraction_24 (by decide) rfl ?_
      refine ks_icmp_geN (tgt := 53) (by decide) (by decide) dX16_fraction_25 (by decide) rfl (fun hc25 => ?_) (fun hc25 => ?_)
      · exact absurd hc25 (by decide)
      · refine ks_aload_n dX16_fraction_28 rfl rfl ?_
        refine ks_getf (T := TX16) (kf := 5) kx_2373 rfl in_X16 cl_X16 (by decide) ((ks_set_ne _ _ (by decide)).trans o1) rfl dX16_fraction_29 rfl ?_
        refine ks_iload dX16_fraction_32 rfl rfl ?_
        refine ks_lload dX16_fraction_34 rfl rfl ?_
        refine ks_bipush (x := nI 16) dX16_fraction_36 (by decide) rfl ?_
        refine ks_iload dX16_fraction_38 rfl rfl ?_
        refine ks_mulN dX16_fraction_40 rfl ?_
        refine ks_ti (y := nI 16) rfl ?_
        refine ks_lshrN (k := 16) (by decide) (by decide) (by omega) dX16_fraction_41 rfl ?_
        refine ks_ldc2 dX16_fraction_42 kx_1912 rfl ?_
        refine ks_tl (y := lN 65535) rfl ?_
        refine ks_landN (k := 16) (p := 65536) (by decide) (by decide) (by decide) (by omega) dX16_fraction_45 rfl ?_
        refine ks_lastNN (i := 1) (v := (t / 2 ^ 16) % 65536) (ks_set_same _ _ _) (by decide) (by decide) dX16_fraction_46 rfl ?_
        refine ks_incN (c := 1) (e := 2) dX16_fraction_47 rfl (by decide) rfl (by decide) rfl ?_
        refine ks_sub [(8, _), (0, _), (1, _), (2, _), (3, _), (5, _), (6, _)] rfl ?_
        refine ks_goto (tgt := 22) dX16_fraction_50 (by decide) ?_
        refine ks_iload dX16_fraction_22 rfl rfl ?_
        refine ks_iconst (x := nI 3) dX16_fraction_24 (by decide) rfl ?_
        refine ks_icmp_geN (tgt := 53) (by decide) (by decide) dX16_fraction_25 (by decide) rfl (fun hc25 => ?_) (fun hc25 => ?_)
        · exact absurd hc25 (by decide)
        · refine ks_aload_n dX16_fraction_28 rfl rfl ?_
          refine ks_getf (T := TX16) (kf := 5) kx_2373 rfl in_X16 cl_X16 (by decide) ((ks_set_ne _ _ (by decide)).trans ((ks_set_ne _ _ (by decide)).trans o1)) rfl dX16_fraction_29 rfl ?_
          refine ks_iload dX16_fraction_32 rfl rfl ?_
          refine ks_lload dX16_fraction_34 rfl rfl ?_
          refine ks_bipush (x := nI 16) dX16_fraction_36 (by decide) rfl ?_
          refine ks_iload dX16_fraction_38 rfl rfl ?_
          refine ks_mulN dX16_fraction_40 rfl ?_
          refine ks_ti (y := nI 32) rfl ?_
          refine ks_lshrN (k := 32) (by decide) (by decide) (by omega) dX16_fraction_41 rfl ?_
          refine ks_ldc2 dX16_fraction_42 kx_1912 rfl ?_
          refine ks_tl (y := lN 65535) rfl ?_
          refine ks_landN (k := 16) (p := 65536) (by decide) (by decide) (by decide) (by omega) dX16_fraction_45 rfl ?_
          refine ks_lastNN (i := 2) (v := (t / 2 ^ 32) % 65536) (ks_set_same _ _ _) (by decide) (by decide) dX16_fraction_46 rfl ?_
          refine ks_incN (c := 1) (e := 3) dX16_fraction_47 rfl (by decide) rfl (by decide) rfl ?_
          refine ks_sub [(8, _), (0, _), (1, _), (2, _), (3, _), (5, _), (6, _)] rfl ?_
          refine ks_goto (tgt := 22) dX16_fraction_50 (by decide) ?_
          refine ks_iload dX16_fraction_22 rfl rfl ?_
          refine ks_iconst (x := nI 3) dX16_fraction_24 (by decide) rfl ?_
          refine ks_icmp_geN (tgt := 53) (by decide) (by decide) dX16_fraction_25 (by decide) rfl (fun hc25 => ?_) (fun hc25 => ?_)
          · refine ks_nm (fun T1 e9 => ?_)
            have u1 : ks_up S1 T1 [296] := by rw [e9]; exact ks_upL (ks_upL (ks_up_set _ _ (List.mem_singleton.mpr rfl)) (List.mem_singleton.mpr rfl)) (List.mem_singleton.mpr rfl)
            obtain ⟨g, eg⟩ : ∃ v, v = (va_up (va_up (va_up f6 0 ((t / 2 ^ 0) % 65536)) 1 ((t / 2 ^ 16) % 65536)) 2 ((t / 2 ^ 32) % 65536)) := ⟨_, rfl⟩
            have y1 : T1.2.2 296 = some (kL 3 g) := by rw [e9, eg]; exact ks_set_same _ _ _
            clear e9
            have g0 : g 0 = t % 65536 := by rw [eg]; show t / 2 ^ 0 % 65536 = _; rw [Nat.pow_zero, Nat.div_one]
            have g1 : g 1 = t / 65536 % 65536 := by rw [eg]; rfl
            have g2 : g 2 = t / 4294967296 % 65536 := by rw [eg]; rfl
            have hg : ∀ j, j < 3 → g j < 65536 := fun j hj => by
              rcases (show j = 0 ∨ j = 1 ∨ j = 2 by omega) with rfl | rfl | rfl <;> omega
            have dg3 : dg 65536 g 3 = t := by
              rw [dg_s, dg_s, dg_s, show dg 65536 g 0 = 0 from rfl, g0, g1, g2]
              omega
            have o2 := u1.at o1 (by decide)
            refine ks_sub [(0, _), (1, _), (2, _), (3, _), (5, _), (6, _)] rfl ?_
            refine ks_aload_n dX16_fraction_53 rfl rfl ?_
            refine ks_aload_n dX16_fraction_54 rfl rfl ?_
            refine ks_getf (T := TX16) (kf := 5) kx_2373 rfl in_X16 cl_X16 (by decide) o2 rfl dX16_fraction_55 rfl ?_
            refine ks_iconst (x := nI 3) dX16_fraction_58 (by decide) rfl ?_
            refine ks_aload_n dX16_fraction_59 rfl rfl ?_
            refine ks_getf (T := TX16) (kf := 6) kx_2374 rfl in_X16 cl_X16 (by decide) o2 rfl dX16_fraction_60 rfl ?_
            refine ks_callV (n := 3) (M' := mX16_times) (c_md_timesR (d := d) (na := 3) (nb := 6) (k := 3) o2 y1 y1 (by decide) (by decide) (by decide) (by decide) (by decide) (by decide) (by decide) (by decide) hg hg (u1.at e7 (by decide))) o2 cl_X16 rfl kx_1913 kx_1915 kxp_51 kx_30 kx_1916 (by decide +kernel) rfl (by decide) (Nat.le_of_ble_eq_true rfl) rfl dX16_fraction_63 rfl (fun z2 T2 y2 => ?_)
            obtain ⟨rfl, q2, u2, y2, b2, d2⟩ := y2
            rw [dg3] at d2
            have o3 := u2.at o2 (by decide)
            refine ks_aload_n dX16_fraction_66 rfl rfl ?_
            refine ks_aload_n dX16_fraction_67 rfl rfl ?_
            refine ks_getf (T := TX16) (kf := 6) kx_2374 rfl in_X16 cl_X16 (by decide) o3 rfl dX16_fraction_68 rfl ?_
            refine ks_bipush (x := nI 6) dX16_fraction_71 (by decide) rfl ?_
            refine ks_aload_n dX16_fraction_73 rfl rfl ?_
            refine ks_getf (T := TX16) (kf := 7) kx_2375 rfl in_X16 cl_X16 (by decide) o3 rfl dX16_fraction_74 rfl ?_
            refine ks_callV (n := 3) (M' := mX16_times) (c_md_timesR (d := d) (na := 6) (nb := 9) (k := 6) o3 y2 (u2.at y1 (by decide)) (by decide) (by decide) (by decide) (by decide) (by decide) (by decide) (by decide) (by decide) b2 hg (u2.at (u1.at e8 (by decide)) (by decide))) o3 cl_X16 rfl kx_1913 kx_1915 kxp_51 kx_30 kx_1916 (by decide +kernel) rfl (by decide) (Nat.le_of_ble_eq_true rfl) rfl dX16_fraction_77 rfl (fun z3 T3 y3 => ?_)
            obtain ⟨rfl, q3, u3, y3, b3, d3⟩ := y3
            rw [show dg 65536 q2 6 = t * t from d2, dg3] at d3
            have o4 := u3.at o3 (by decide)
            have y24 := u3.at y2 (by decide)
            have U4 : ks_up S T3 [296, 297, 298] := ((hu.trans (u1.mono (by decide))).trans (u2.mono (by decide))).trans (u3.mono (by decide))
            have x6 := u3.at (u2.at y1 (by decide)) (by decide)
            have c6 := b3 6 (by decide)
            have c7 := b3 7 (by decide)
            have c8 := b3 8 (by decide)
            have ev : frV true t = q3 8 * 2 ^ 32 + (q3 7 * 2 ^ 16 + q3 6) := fr_cu b3 d3
            have evl : frV true t < 2 ^ 62 := by rw [ev]; omega
            refine ks_iload_n dX16_fraction_80 rfl rfl ?_
            refine ks_if_eqN (tgt := 116) (by decide) dX16_fraction_81 (by decide) rfl (fun hc81 => ?_) (fun hc81 => ?_)
            · exact absurd hc81 (by decide)
            · refine ks_aload_n dX16_fraction_84 rfl rfl ?_
              refine ks_getf (T := TX16) (kf := 7) kx_2375 rfl in_X16 cl_X16 (by decide) o4 rfl dX16_fraction_85 rfl ?_
              refine ks_bipush (x := nI 6) dX16_fraction_88 (by decide) rfl ?_
              refine ks_laldN (i := 6) y3 rfl (by decide) (by decide) dX16_fraction_90 rfl ?_
              refine ks_aload_n dX16_fraction_91 rfl rfl ?_
              refine ks_getf (T := TX16) (kf := 7) kx_2375 rfl in_X16 cl_X16 (by decide) o4 rfl dX16_fraction_92 rfl ?_
              refine ks_bipush (x := nI 7) dX16_fraction_95 (by decide) rfl ?_
              refine ks_laldN (i := 7) y3 rfl (by decide) (by decide) dX16_fraction_97 rfl ?_
              refine ks_bipush (x := nI 16) dX16_fraction_98 (by decide) rfl ?_
              refine ks_lshlN (k := 16) (by decide) dX16_fraction_100 rfl ?_
              refine ks_lor dX16_fraction_101 rfl ?_
              refine ks_tl (lor_sw (a := q3 7) (k := 16) (p := 2 ^ 16) rfl (by omega) (by omega)) ?_
              refine ks_aload_n dX16_fraction_102 rfl rfl ?_
              refine ks_getf (T := TX16) (kf := 7) kx_2375 rfl in_X16 cl_X16 (by decide) o4 rfl dX16_fraction_103 rfl ?_
              refine ks_bipush (x := nI 8) dX16_fraction_106 (by decide) rfl ?_
              refine ks_laldN (i := 8) y3 rfl (by decide) (by decide) dX16_fraction_108 rfl ?_
              refine ks_bipush (x := nI 32) dX16_fraction_109 (by decide) rfl ?_
              refine ks_lshlN (k := 32) (by decide) dX16_fraction_111 rfl ?_
              refine ks_lor dX16_fraction_112 rfl ?_
              refine ks_tl (lor_sw (a := q3 8) (k := 32) (p := 2 ^ 32) rfl (by omega) (by omega)) ?_
              rw [← ev]
              refine ks_goto (tgt := 132) dX16_fraction_113 (by decide) ?_
              refine ks_lstore dX16_fraction_132 (by decide) rfl ?_
              refine ks_sub [(8, _), (0, _), (1, _), (2, _), (3, _), (5, _), (6, _)] rfl ?_
              refine ks_lload dX16_fraction_134 rfl rfl ?_
              refine ks_iload_n dX16_fraction_136 rfl rfl ?_
              refine ks_i2lN (by omega) dX16_fraction_137 rfl ?_
              refine ks_lif_geN (tgt := 145) (by omega) (by omega) dX16_fraction_138 rfl dX16_fraction_139 (by decide) rfl (fun hq8 => ?_) (fun hq8 => ?_)
              · have hq9 : ¬ frV true t < p := by omega
                refine ks_incD dX16_fraction_145 rfl (by decide) (by decide) rfl ?_
                refine ks_sub [(5, _), (0, _), (1, _), (2, _), (3, _), (6, _), (8, _)] rfl ?_
                refine ks_goto (tgt := 6) dX16_fraction_148 (by decide) ?_
                rw [if_neg hq9, ea2] at hf
                refine ks_sub [(0, _), (1, _), (2, _), (3, .long (lN (2 * a * 2 ^ b))), (5, _)] (by rw [← ea2]; rfl) (ih (2 * a) T3 g q2 q3 (by omega) ?_ hf U4 x6 y24 y3)
                have : (2 * a + 1) * 2 ^ b = a * 2 ^ (b + 1) + 2 ^ b := by rw [ea2, Nat.add_mul, Nat.one_mul]
                omega
              · have hq9 : frV true t < p := by omega
                refine ks_lload dX16_fraction_142 rfl rfl ?_
                refine ks_lstore_n dX16_fraction_144 (by decide) rfl ?_
                refine ks_sub [(3, _), (0, _), (1, _), (2, _), (5, _), (6, _), (8, _)] rfl ?_
                refine ks_incD dX16_fraction_145 rfl (by decide) (by decide) rfl ?_
                refine ks_sub [(5, _), (0, _), (1, _), (2, _), (3, _), (6, _), (8, _)] rfl ?_
                refine ks_goto (tgt := 6) dX16_fraction_148 (by decide) ?_
                rw [if_pos hq9] at hf
                rw [et3] at hf
                refine ks_sub [(0, _), (1, _), (2, _), (3, .long (lN ((2 * a + 1) * 2 ^ b))), (5, _)] (by rw [← et3]; rfl) (ih (2 * a + 1) T3 g q2 q3 (by omega) ?_ hf U4 x6 y24 y3)
                have : (2 * a + 1 + 1) * 2 ^ b = (a + 1) * 2 ^ (b + 1) := by rw [hpw, Nat.mul_comm (2 ^ b) 2, ← Nat.mul_assoc]; congr 1; omega
                omega
          · exact absurd hc25 (by decide)
set_option maxRecDepth 100000 in
set_option maxHeartbeats 800000 in
theorem c_md_fraction1 {l : Launch} {G : ks_G} {d : Nat} {S : ks_S} {V : Nat → Value} {p : Nat} {f6 f7 f8 : Nat → Nat} (hO : S.2.2 290 = some (rfE V)) (hp : p < 30000) (e6 : S.2.2 296 = some (kL 3 f6)) (e7 : S.2.2 297 = some (kL 6 f7)) (e8 : S.2.2 298 = some (kL 9 f8)) : ks_P l G yX16_fraction mX16_fraction (d + 1) [.ref 290, .int (nI p), .int (nI 1)] S (fun z S' => z = some (.int (nI (frL p true 36 0))) ∧ ks_up S S' [296, 297, 298] ∧ (∃ f, S'.2.2 296 = some (kL 3 f)) ∧ (∃ f, S'.2.2 297 = some (kL 6 f)) ∧ ∃ f, S'.2.2 298 = some (kL 9 f)) := by
  refine ks_of (by decide) rfl rfl (Nat.le_of_ble_eq_true rfl) ?_
  show ks_X l G mX16_fraction (d + 1) 0 [(0, .ref 290), (1, .int (nI p)), (2, .int (nI 1))] [] S _
  refine ks_lconst (x := lN 0) dX16_fraction_0 (by decide) rfl ?_
  refine ks_lstore_n dX16_fraction_1 (by decide) rfl ?_
  refine ks_sub [(3, _), (0, _), (1, _), (2, _)] rfl ?_
  refine ks_bipush (x := nI 35) dX16_fraction_2 (by decide) rfl ?_
  refine ks_istore dX16_fraction_4 (by decide) rfl ?_
  refine ks_sub [(5, _), (0, _), (1, _), (2, _), (3, _)] rfl ?_
  exact ks_sub [(0, _), (1, _), (2, _), (3, .long (lN (0 * 2 ^ 36))), (5, .int (nI 36 - 1))] rfl (l_fr1 hO hp 36 0 S f6 f7 f8 (by decide) (by decide) (by rw [Nat.zero_mul]) (ks_up.rf _ _) e6 e7 e8)
