/-! THE REFERENCE: a count -/
/-- what count does to the object -/
def rcP (S : ks_S) (V : Nat → Value) (g : Nat → Nat) (p L : Nat) : Option Value → ks_S → Prop := fun z S' => ks_up S S' [290] ∧ ∃ V', S'.2.2 290 = some (rfE V') ∧ (∀ k, k ≠ 36 → k ≠ 39 → V' k = V k) ∧ ((∃ v q, v < 65536 ∧ q ≤ L ∧ p < q ∧ z = some (.long (lN v)) ∧ V' 36 = .int (nI q) ∧ V' 39 = .int (ks_bo false) ∧ ∀ most, most < 65536 → rc g p L most = if v ≤ most then some (v, q) else none) ∨ (∃ x q, (x < 0 ∨ lN 65535 < x) ∧ q ≤ L ∧ z = some (.long x) ∧ V' 36 = .int (nI q) ∧ V' 39 = .int (ks_bo false) ∧ ∀ most, most < 65536 → rc g p L most = none) ∨ (∃ x q, z = some (.long x) ∧ q ≤ L ∧ V' 36 = .int (nI q) ∧ V' 39 = .int (ks_bo true) ∧ ∀ most, most < 65536 → rc g p L most = none))
set_option maxRecDepth 100000 in
set_option maxHeartbeats 1600000 in
theorem c_md_count {l : Launch} {G : ks_G} {d : Nat} {S : ks_S} {V : Nat → Value} {y N p L : Nat} {g : Nat → Nat} (hO : S.2.2 290 = some (rfE V)) (ha : V 36 = .int (nI p)) (hl : V 37 = .int (nI L)) (ht : V 38 = .ref y) (hb : V 39 = .int (ks_bo false)) (hy : S.2.2 y = some (kB N g)) (kg : kO g) (hLN : L ≤ N) (hN : N < 2 ^ 16) (hp : p ≤ L) : ks_P l G yX16_count mX16_count (d + 1) [.ref 290] S (rcP S V g p L) := by
  have y290 : y ≠ 290 := ks_neO hy hO
  have u1 : ∀ e, ks_up S (ks_set S 290 e) [290] := fun e => ks_up_set _ _ (List.mem_singleton.mpr rfl)
  have n2 := num2_lt kg (p + 1)
  have n4 : ks_num g (p + 1) 4 < 4294967296 := ks_num_lt kg 4 _
  have n8 : ks_num g (p + 1) 8 < 18446744073709551616 := ks_num_lt kg 8 _
  have gp := kg p
  unfold rcP
  refine ks_of (by decide) rfl rfl (Nat.le_of_ble_eq_true rfl) ?_
  show ks_X l G mX16_count (d + 1) 0 [(0, .ref 290)] [] S _
  refine ks_aload_n dX16_count_0 rfl rfl ?_
  refine ks_getf (T := TX16) (kf := 36) kx_2404 rfl in_X16 cl_X16 (by decide) hO rfl dX16_count_1 rfl ?_
  refine ks_tv ha ?_
  refine ks_aload_n dX16_count_4 rfl rfl ?_
  refine ks_getf (T := TX16) (kf := 37) kx_2405 rfl in_X16 cl_X16 (by decide) hO rfl dX16_count_5 rfl ?_
  refine ks_tv hl ?_
  refine ks_icmp_ltN (tgt := 18) (by omega) (by omega) dX16_count_8 (by decide) rfl (fun h1 => ?_) (fun h1 => ?_)
  · refine ks_aload_n dX16_count_18 rfl rfl ?_
    refine ks_aload_n dX16_count_19 rfl rfl ?_
    refine ks_getf (T := TX16) (kf := 36) kx_2404 rfl in_X16 cl_X16 (by decide) hO rfl dX16_count_20 rfl ?_
    refine ks_tv ha ?_
    refine ks_callV (n := 1) (M' := mX16_byteAt) (c_md_byteAt (d := d) hO ht hy kg (by omega) (by omega)) hO cl_X16 rfl kx_2102 kx_2104 kxp_75 kx_30 kx_2105 (by decide +kernel) rfl (by decide) (Nat.le_of_ble_eq_true rfl) rfl dX16_count_23 rfl (fun z1 T1 y1 => ?_)
    obtain ⟨rfl, hT1⟩ := y1
    obtain rfl := hT1.symm
    refine ks_istore_n dX16_count_26 (by decide) rfl ?_
    refine ks_sub [(1, _), (0, _)] rfl ?_
    refine ks_iload_n dX16_count_27 rfl rfl ?_
    refine ks_sipush (x := nI 253) dX16_count_28 (by decide) rfl ?_
    refine ks_icmp_geN (tgt := 38) (by omega) (by decide) dX16_count_31 (by decide) rfl (fun hb1 => ?_) (fun hb1 => ?_)
    · refine ks_iload_n dX16_count_38 rfl rfl ?_
      refine ks_sipush (x := nI 253) dX16_count_39 (by decide) rfl ?_
      refine ks_icmp_neN (tgt := 49) (by omega) (by decide) dX16_count_42 (by decide) rfl (fun hb2 => ?_) (fun hb2 => ?_)
      · refine ks_iload_n dX16_count_49 rfl rfl ?_
        refine ks_sipush (x := nI 254) dX16_count_50 (by decide) rfl ?_
        refine ks_icmp_neN (tgt := 60) (by omega) (by decide) dX16_count_53 (by decide) rfl (fun hb3 => ?_) (fun hb3 => ?_)
        · refine ks_bipush (x := nI 8) dX16_count_60 (by decide) rfl ?_
          refine ks_istore_n dX16_count_62 (by decide) rfl ?_
          refine ks_sub [(2, _), (0, _), (1, _)] rfl ?_
          refine ks_aload_n dX16_count_63 rfl rfl ?_
          refine ks_getf (T := TX16) (kf := 36) kx_2404 rfl in_X16 cl_X16 (by decide) hO rfl dX16_count_64 rfl ?_
          refine ks_tv ha ?_
          refine ks_iconst (x := nI 1) dX16_count_67 (by decide) rfl ?_
          refine ks_addN dX16_count_68 rfl ?_
          refine ks_istore_n dX16_count_69 (by decide) rfl ?_
          refine ks_sub [(3, _), (0, _), (1, _), (2, _)] rfl ?_
          refine ks_aload_n dX16_count_70 rfl rfl ?_
          refine ks_iconst (x := nI 1) dX16_count_71 (by decide) rfl ?_
          refine ks_iload_n dX16_count_72 rfl rfl ?_
          refine ks_addN dX16_count_73 rfl ?_
          refine ks_ti (y := nI 9) rfl ?_
          refine ks_i2lN (by decide) dX16_count_74 rfl ?_
          by_cases hs : p + 9 ≤ L
          · refine ks_callV (n := 1) (M' := mX16_skip) (c_md_skipN (d := d) (m := 9) hO ha hl hp (by omega) (by omega)) hO cl_X16 rfl kx_2094 kx_2096 kxp_73 kx_30 kx_2097 (by decide +kernel) rfl (by decide) (Nat.le_of_ble_eq_true rfl) rfl dX16_count_75 rfl (fun z2 T2 y2 => ?_)
            obtain ⟨rfl, hT2⟩ := y2
            obtain rfl := hT2.symm
            refine ks_aload_n dX16_count_78 rfl rfl ?_
            refine ks_getf (T := TX16) (kf := 39) kx_2407 rfl in_X16 cl_X16 (by decide) (ks_set_same _ _ _) rfl dX16_count_79 rfl ?_
            refine ks_tv ((va_up_ne _ _ (by decide)).trans hb) ?_
            refine ks_if_eqZ (tgt := 87) dX16_count_82 (by decide) rfl (fun _ => ?_) (fun h => absurd h (by decide))
            refine ks_iload_n dX16_count_87 rfl rfl ?_
            refine ks_if_neN (tgt := 94) (by decide) dX16_count_88 (by decide) rfl (fun _ => ?_) (fun h => absurd h (by decide))
            refine ks_aload_n dX16_count_94 rfl rfl ?_
            refine ks_aload_n dX16_count_95 rfl rfl ?_
            refine ks_getf (T := TX16) (kf := 38) kx_2406 rfl in_X16 cl_X16 (by decide) (ks_set_same _ _ _) rfl dX16_count_96 rfl ?_
            refine ks_tv ((va_up_ne _ _ (by decide)).trans ht) ?_
            refine ks_iload_n dX16_count_99 rfl rfl ?_
            refine ks_iload_n dX16_count_100 rfl rfl ?_
            have hy2 := (ks_set_ne S (rfE (va_up V 36 (.int (nI (p + 9))))) y290).trans hy
            refine ks_callV (n := 3) (M' := mX16_number) (c_md_number (d := d) (n := 8) hy2 kg (by omega) (by decide) (by omega)) (ks_set_same _ _ _) cl_X16 rfl kx_2020 kx_2022 kxp_68 kx_30 kx_2023 (by decide +kernel) rfl (by decide) (Nat.le_of_ble_eq_true rfl) rfl dX16_count_101 rfl (fun z3 T3 y3 => ?_)
            obtain ⟨rfl, hT3⟩ := y3
            obtain rfl := hT3.symm
            refine ks_lstore dX16_count_104 (by decide) rfl ?_
            refine ks_sub [(4, _), (0, _), (1, _), (2, _), (3, _)] rfl ?_
            refine ks_iload_n dX16_count_106 rfl rfl ?_
            refine ks_iconst (x := nI 2) dX16_count_107 (by decide) rfl ?_
            refine ks_icmp_neN (tgt := 123) (by decide) (by decide) dX16_count_108 (by decide) rfl (fun _ => ?_) (fun h => absurd h (by decide))
            refine ks_iload_n dX16_count_123 rfl rfl ?_
            refine ks_iconst (x := nI 4) dX16_count_124 (by decide) rfl ?_
            refine ks_icmp_neN (tgt := 140) (by decide) (by decide) dX16_count_125 (by decide) rfl (fun _ => ?_) (fun h => absurd h (by decide))
            refine ks_lload dX16_count_140 rfl rfl ?_
            refine ks_bipush (x := nI 32) dX16_count_142 (by decide) rfl ?_
            refine ks_lushrN (k := 32) (by decide) (by omega) dX16_count_144 rfl ?_
            refine ks_lconst (x := lN 0) dX16_count_145 (by decide) rfl ?_
            refine ks_lif_neN (tgt := 155) (by omega) (by decide) dX16_count_146 rfl dX16_count_147 (by decide) rfl (fun h6 => ?_) (fun h6 => ?_)
            · refine ks_lload dX16_count_155 rfl rfl ?_
              refine ks_lret rfl dX16_count_157 ?_
              refine ⟨u1 _, _, ks_set_same _ _ _, fun k h1 h2 => va_up_ne _ _ h1, Or.inr (Or.inl ⟨lN (ks_num g (p + 1) 8), p + 9, lN_bg9 (by omega) (by omega), by omega, rfl, (va_up_self _ _ _), ((va_up_ne _ _ (by decide)).trans hb), fun most hm => ?_⟩)⟩
              unfold rc
              rw [if_neg (by omega), if_neg (by omega), if_neg (by omega)]
            · refine ks_aload_n dX16_count_150 rfl rfl ?_
              refine ks_iconst (x := nI 1) dX16_count_151 (by decide) rfl ?_
              refine ks_putf (T := TX16) (kf := 39) kx_2407 rfl in_X16 tyX16_ok nmX16 cl_X16 (by decide) (ks_set_same _ _ _) (Nat.le_of_ble_eq_true rfl) rfl rfl rfl rfl dX16_count_152 rfl ?_
              refine md_put mdp_39 ?_
              refine ks_lload dX16_count_155 rfl rfl ?_
              refine ks_lret rfl dX16_count_157 ?_
              refine ⟨(u1 _).trans (ks_up_set _ _ (List.mem_singleton.mpr rfl)), _, ks_set_same _ _ _, fun k h1 h2 => (va_up_ne _ _ h2).trans (va_up_ne _ _ h1), Or.inr (Or.inr ⟨_, p + 9, rfl, by omega, (va_up_ne _ _ (by decide)).trans (va_up_self _ _ _), va_up_self _ _ _, fun most hm => ?_⟩)⟩
              unfold rc
              rw [if_neg (by omega), if_neg (by omega), if_neg (by omega)]
          · refine ks_callV (n := 1) (M' := mX16_skip) (c_md_skipX (d := d) (x := lN 9) hO ha hl hp (by omega) (Or.inr ((pk_lLT (by omega) (by decide)).mpr (by omega)))) hO cl_X16 rfl kx_2094 kx_2096 kxp_73 kx_30 kx_2097 (by decide +kernel) rfl (by decide) (Nat.le_of_ble_eq_true rfl) rfl dX16_count_75 rfl (fun z2 T2 y2 => ?_)
            obtain ⟨rfl, hT2⟩ := y2
            obtain rfl := hT2.symm
            refine ks_aload_n dX16_count_78 rfl rfl ?_
            refine ks_getf (T := TX16) (kf := 39) kx_2407 rfl in_X16 cl_X16 (by decide) (ks_set_same _ _ _) rfl dX16_count_79 rfl ?_
            refine ks_tv (va_up_self _ _ _) ?_
            refine ks_if_eqZ (tgt := 87) dX16_count_82 (by decide) rfl (fun h => absurd h (by decide)) (fun _ => ?_)
            refine ks_lconst (x := lN 0) dX16_count_85 (by decide) rfl ?_
            refine ks_lret rfl dX16_count_86 ?_
            refine ⟨u1 _, _, ks_set_same _ _ _, fun k h1 h2 => va_up_ne _ _ h2, Or.inr (Or.inr ⟨_, p, rfl, hp, (va_up_ne _ _ (by decide)).trans ha, va_up_self _ _ _, fun most hm => ?_⟩)⟩
            unfold rc
            rw [if_neg (by omega), if_neg (by omega), if_neg (by omega)]
        · refine ks_iconst (x := nI 4) dX16_count_56 (by decide) rfl ?_
          refine ks_goto (tgt := 62) dX16_count_57 (by decide) ?_
          refine ks_istore_n dX16_count_62 (by decide) rfl ?_
          refine ks_sub [(2, _), (0, _), (1, _)] rfl ?_
          refine ks_aload_n dX16_count_63 rfl rfl ?_
          refine ks_getf (T := TX16) (kf := 36) kx_2404 rfl in_X16 cl_X16 (by decide) hO rfl dX16_count_64 rfl ?_
          refine ks_tv ha ?_
          refine ks_iconst (x := nI 1) dX16_count_67 (by decide) rfl ?_
          refine ks_addN dX16_count_68 rfl ?_
          refine ks_istore_n dX16_count_69 (by decide) rfl ?_
          refine ks_sub [(3, _), (0, _), (1, _), (2, _)] rfl ?_
          refine ks_aload_n dX16_count_70 rfl rfl ?_
          refine ks_iconst (x := nI 1) dX16_count_71 (by decide) rfl ?_
          refine ks_iload_n dX16_count_72 rfl rfl ?_
          refine ks_addN dX16_count_73 rfl ?_
          refine ks_ti (y := nI 5) rfl ?_
          refine ks_i2lN (by decide) dX16_count_74 rfl ?_
          by_cases hs : p + 5 ≤ L
          · refine ks_callV (n := 1) (M' := mX16_skip) (c_md_skipN (d := d) (m := 5) hO ha hl hp (by omega) (by omega)) hO cl_X16 rfl kx_2094 kx_2096 kxp_73 kx_30 kx_2097 (by decide +kernel) rfl (by decide) (Nat.le_of_ble_eq_true rfl) rfl dX16_count_75 rfl (fun z2 T2 y2 => ?_)
            obtain ⟨rfl, hT2⟩ := y2
            obtain rfl := hT2.symm
            refine ks_aload_n dX16_count_78 rfl rfl ?_
            refine ks_getf (T := TX16) (kf := 39) kx_2407 rfl in_X16 cl_X16 (by decide) (ks_set_same _ _ _) rfl dX16_count_79 rfl ?_
            refine ks_tv ((va_up_ne _ _ (by decide)).trans hb) ?_
            refine ks_if_eqZ (tgt := 87) dX16_count_82 (by decide) rfl (fun _ => ?_) (fun h => absurd h (by decide))
            refine ks_iload_n dX16_count_87 rfl rfl ?_
            refine ks_if_neN (tgt := 94) (by decide) dX16_count_88 (by decide) rfl (fun _ => ?_) (fun h => absurd h (by decide))
            refine ks_aload_n dX16_count_94 rfl rfl ?_
            refine ks_aload_n dX16_count_95 rfl rfl ?_
            refine ks_getf (T := TX16) (kf := 38) kx_2406 rfl in_X16 cl_X16 (by decide) (ks_set_same _ _ _) rfl dX16_count_96 rfl ?_
            refine ks_tv ((va_up_ne _ _ (by decide)).trans ht) ?_
            refine ks_iload_n dX16_count_99 rfl rfl ?_
            refine ks_iload_n dX16_count_100 rfl rfl ?_
            have hy2 := (ks_set_ne S (rfE (va_up V 36 (.int (nI (p + 5))))) y290).trans hy
            refine ks_callV (n := 3) (M' := mX16_number) (c_md_number (d := d) (n := 4) hy2 kg (by omega) (by decide) (by omega)) (ks_set_same _ _ _) cl_X16 rfl kx_2020 kx_2022 kxp_68 kx_30 kx_2023 (by decide +kernel) rfl (by decide) (Nat.le_of_ble_eq_true rfl) rfl dX16_count_101 rfl (fun z3 T3 y3 => ?_)
            obtain ⟨rfl, hT3⟩ := y3
            obtain rfl := hT3.symm
            refine ks_lstore dX16_count_104 (by decide) rfl ?_
            refine ks_sub [(4, _), (0, _), (1, _), (2, _), (3, _)] rfl ?_
            refine ks_iload_n dX16_count_106 rfl rfl ?_
            refine ks_iconst (x := nI 2) dX16_count_107 (by decide) rfl ?_
            refine ks_icmp_neN (tgt := 123) (by decide) (by decide) dX16_count_108 (by decide) rfl (fun _ => ?_) (fun h => absurd h (by decide))
            refine ks_iload_n dX16_count_123 rfl rfl ?_
            refine ks_iconst (x := nI 4) dX16_count_124 (by decide) rfl ?_
            refine ks_icmp_neN (tgt := 140) (by decide) (by decide) dX16_count_125 (by decide) rfl (fun h => absurd h (by decide)) (fun _ => ?_)
            refine ks_lload dX16_count_128 rfl rfl ?_
            refine ks_ldc2 dX16_count_130 kx_2106 rfl ?_
            refine ks_tl (y := lN 65536) rfl ?_
            refine ks_lif_geN (tgt := 155) (by omega) (by decide) dX16_count_133 rfl dX16_count_134 (by decide) rfl (fun h6 => ?_) (fun h6 => ?_)
            · refine ks_lload dX16_count_155 rfl rfl ?_
              refine ks_lret rfl dX16_count_157 ?_
              refine ⟨u1 _, _, ks_set_same _ _ _, fun k h1 h2 => va_up_ne _ _ h1, Or.inr (Or.inl ⟨lN (ks_num g (p + 1) 4), p + 5, lN_bg9 (by omega) (by omega), by omega, rfl, (va_up_self _ _ _), ((va_up_ne _ _ (by decide)).trans hb), fun most hm => ?_⟩)⟩
              unfold rc
              rw [if_neg (by omega), if_neg (by omega), if_neg (by omega)]
            · refine ks_goto (tgt := 150) dX16_count_137 (by decide) ?_
              refine ks_aload_n dX16_count_150 rfl rfl ?_
              refine ks_iconst (x := nI 1) dX16_count_151 (by decide) rfl ?_
              refine ks_putf (T := TX16) (kf := 39) kx_2407 rfl in_X16 tyX16_ok nmX16 cl_X16 (by decide) (ks_set_same _ _ _) (Nat.le_of_ble_eq_true rfl) rfl rfl rfl rfl dX16_count_152 rfl ?_
              refine md_put mdp_39 ?_
              refine ks_lload dX16_count_155 rfl rfl ?_
              refine ks_lret rfl dX16_count_157 ?_
              refine ⟨(u1 _).trans (ks_up_set _ _ (List.mem_singleton.mpr rfl)), _, ks_set_same _ _ _, fun k h1 h2 => (va_up_ne _ _ h2).trans (va_up_ne _ _ h1), Or.inr (Or.inr ⟨_, p + 5, rfl, by omega, (va_up_ne _ _ (by decide)).trans (va_up_self _ _ _), va_up_self _ _ _, fun most hm => ?_⟩)⟩
              unfold rc
              rw [if_neg (by omega), if_neg (by omega), if_neg (by omega)]
          · refine ks_callV (n := 1) (M' := mX16_skip) (c_md_skipX (d := d) (x := lN 5) hO ha hl hp (by omega) (Or.inr ((pk_lLT (by omega) (by decide)).mpr (by omega)))) hO cl_X16 rfl kx_2094 kx_2096 kxp_73 kx_30 kx_2097 (by decide +kernel) rfl (by decide) (Nat.le_of_ble_eq_true rfl) rfl dX16_count_75 rfl (fun z2 T2 y2 => ?_)
            obtain ⟨rfl, hT2⟩ := y2
            obtain rfl := hT2.symm
            refine ks_aload_n dX16_count_78 rfl rfl ?_
            refine ks_getf (T := TX16) (kf := 39) kx_2407 rfl in_X16 cl_X16 (by decide) (ks_set_same _ _ _) rfl dX16_count_79 rfl ?_
            refine ks_tv (va_up_self _ _ _) ?_
            refine ks_if_eqZ (tgt := 87) dX16_count_82 (by decide) rfl (fun h => absurd h (by decide)) (fun _ => ?_)
            refine ks_lconst (x := lN 0) dX16_count_85 (by decide) rfl ?_
            refine ks_lret rfl dX16_count_86 ?_
            refine ⟨u1 _, _, ks_set_same _ _ _, fun k h1 h2 => va_up_ne _ _ h2, Or.inr (Or.inr ⟨_, p, rfl, hp, (va_up_ne _ _ (by decide)).trans ha, va_up_self _ _ _, fun most hm => ?_⟩)⟩
            unfold rc
            rw [if_neg (by omega), if_neg (by omega), if_neg (by omega)]
      · refine ks_iconst (x := nI 2) dX16_count_45 (by decide) rfl ?_
        refine ks_goto (tgt := 62) dX16_count_46 (by decide) ?_
        refine ks_istore_n dX16_count_62 (by decide) rfl ?_
        refine ks_sub [(2, _), (0, _), (1, _)] rfl ?_
        refine ks_aload_n dX16_count_63 rfl rfl ?_
        refine ks_getf (T := TX16) (kf := 36) kx_2404 rfl in_X16 cl_X16 (by decide) hO rfl dX16_count_64 rfl ?_
        refine ks_tv ha ?_
        refine ks_iconst (x := nI 1) dX16_count_67 (by decide) rfl ?_
        refine ks_addN dX16_count_68 rfl ?_
        refine ks_istore_n dX16_count_69 (by decide) rfl ?_
        refine ks_sub [(3, _), (0, _), (1, _), (2, _)] rfl ?_
        refine ks_aload_n dX16_count_70 rfl rfl ?_
        refine ks_iconst (x := nI 1) dX16_count_71 (by decide) rfl ?_
        refine ks_iload_n dX16_count_72 rfl rfl ?_
        refine ks_addN dX16_count_73 rfl ?_
        refine ks_ti (y := nI 3) rfl ?_
        refine ks_i2lN (by decide) dX16_count_74 rfl ?_
        by_cases hs : p + 3 ≤ L
        · refine ks_callV (n := 1) (M' := mX16_skip) (c_md_skipN (d := d) (m := 3) hO ha hl hp (by omega) (by omega)) hO cl_X16 rfl kx_2094 kx_2096 kxp_73 kx_30 kx_2097 (by decide +kernel) rfl (by decide) (Nat.le_of_ble_eq_true rfl) rfl dX16_count_75 rfl (fun z2 T2 y2 => ?_)
          obtain ⟨rfl, hT2⟩ := y2
          obtain rfl := hT2.symm
          refine ks_aload_n dX16_count_78 rfl rfl ?_
          refine ks_getf (T := TX16) (kf := 39) kx_2407 rfl in_X16 cl_X16 (by decide) (ks_set_same _ _ _) rfl dX16_count_79 rfl ?_
          refine ks_tv ((va_up_ne _ _ (by decide)).trans hb) ?_
          refine ks_if_eqZ (tgt := 87) dX16_count_82 (by decide) rfl (fun _ => ?_) (fun h => absurd h (by decide))
          refine ks_iload_n dX16_count_87 rfl rfl ?_
          refine ks_if_neN (tgt := 94) (by decide) dX16_count_88 (by decide) rfl (fun _ => ?_) (fun h => absurd h (by decide))
          refine ks_aload_n dX16_count_94 rfl rfl ?_
          refine ks_aload_n dX16_count_95 rfl rfl ?_
          refine ks_getf (T := TX16) (kf := 38) kx_2406 rfl in_X16 cl_X16 (by decide) (ks_set_same _ _ _) rfl dX16_count_96 rfl ?_
          refine ks_tv ((va_up_ne _ _ (by decide)).trans ht) ?_
          refine ks_iload_n dX16_count_99 rfl rfl ?_
          refine ks_iload_n dX16_count_100 rfl rfl ?_
          have hy2 := (ks_set_ne S (rfE (va_up V 36 (.int (nI (p + 3))))) y290).trans hy
          refine ks_callV (n := 3) (M' := mX16_number) (c_md_number (d := d) (n := 2) hy2 kg (by omega) (by decide) (by omega)) (ks_set_same _ _ _) cl_X16 rfl kx_2020 kx_2022 kxp_68 kx_30 kx_2023 (by decide +kernel) rfl (by decide) (Nat.le_of_ble_eq_true rfl) rfl dX16_count_101 rfl (fun z3 T3 y3 => ?_)
          obtain ⟨rfl, hT3⟩ := y3
          obtain rfl := hT3.symm
          refine ks_lstore dX16_count_104 (by decide) rfl ?_
          refine ks_sub [(4, _), (0, _), (1, _), (2, _), (3, _)] rfl ?_
          refine ks_iload_n dX16_count_106 rfl rfl ?_
          refine ks_iconst (x := nI 2) dX16_count_107 (by decide) rfl ?_
          refine ks_icmp_neN (tgt := 123) (by decide) (by decide) dX16_count_108 (by decide) rfl (fun h => absurd h (by decide)) (fun _ => ?_)
          refine ks_lload dX16_count_111 rfl rfl ?_
          refine ks_ldc2 dX16_count_113 kx_1983 rfl ?_
          refine ks_tl (y := lN 253) rfl ?_
          refine ks_lif_geN (tgt := 155) (by omega) (by decide) dX16_count_116 rfl dX16_count_117 (by decide) rfl (fun h6 => ?_) (fun h6 => ?_)
          · refine ks_lload dX16_count_155 rfl rfl ?_
            refine ks_lret rfl dX16_count_157 ?_
            refine ⟨u1 _, _, ks_set_same _ _ _, fun k h1 h2 => va_up_ne _ _ h1, Or.inl ⟨ks_num g (p + 1) 2, p + 3, by omega, by omega, by omega, rfl, (va_up_self _ _ _), ((va_up_ne _ _ (by decide)).trans hb), fun most hm => ?_⟩⟩
            unfold rc
            rw [if_neg (by omega), if_neg (by omega)]
            by_cases c : ks_num g (p + 1) 2 ≤ most
            · rw [if_pos c, if_pos ⟨by omega, by omega, by omega, c⟩]
            · rw [if_neg c, if_neg (fun h => c h.2.2.2)]
          · refine ks_goto (tgt := 150) dX16_count_120 (by decide) ?_
            refine ks_aload_n dX16_count_150 rfl rfl ?_
            refine ks_iconst (x := nI 1) dX16_count_151 (by decide) rfl ?_
            refine ks_putf (T := TX16) (kf := 39) kx_2407 rfl in_X16 tyX16_ok nmX16 cl_X16 (by decide) (ks_set_same _ _ _) (Nat.le_of_ble_eq_true rfl) rfl rfl rfl rfl dX16_count_152 rfl ?_
            refine md_put mdp_39 ?_
            refine ks_lload dX16_count_155 rfl rfl ?_
            refine ks_lret rfl dX16_count_157 ?_
            refine ⟨(u1 _).trans (ks_up_set _ _ (List.mem_singleton.mpr rfl)), _, ks_set_same _ _ _, fun k h1 h2 => (va_up_ne _ _ h2).trans (va_up_ne _ _ h1), Or.inr (Or.inr ⟨_, p + 3, rfl, by omega, (va_up_ne _ _ (by decide)).trans (va_up_self _ _ _), va_up_self _ _ _, fun most hm => ?_⟩)⟩
            unfold rc
            rw [if_neg (by omega), if_neg (by omega), if_neg (by omega)]
        · refine ks_callV (n := 1) (M' := mX16_skip) (c_md_skipX (d := d) (x := lN 3) hO ha hl hp (by omega) (Or.inr ((pk_lLT (by omega) (by decide)).mpr (by omega)))) hO cl_X16 rfl kx_2094 kx_2096 kxp_73 kx_30 kx_2097 (by decide +kernel) rfl (by decide) (Nat.le_of_ble_eq_true rfl) rfl dX16_count_75 rfl (fun z2 T2 y2 => ?_)
          obtain ⟨rfl, hT2⟩ := y2
          obtain rfl := hT2.symm
          refine ks_aload_n dX16_count_78 rfl rfl ?_
          refine ks_getf (T := TX16) (kf := 39) kx_2407 rfl in_X16 cl_X16 (by decide) (ks_set_same _ _ _) rfl dX16_count_79 rfl ?_
          refine ks_tv (va_up_self _ _ _) ?_
          refine ks_if_eqZ (tgt := 87) dX16_count_82 (by decide) rfl (fun h => absurd h (by decide)) (fun _ => ?_)
          refine ks_lconst (x := lN 0) dX16_count_85 (by decide) rfl ?_
          refine ks_lret rfl dX16_count_86 ?_
          refine ⟨u1 _, _, ks_set_same _ _ _, fun k h1 h2 => va_up_ne _ _ h2, Or.inr (Or.inr ⟨_, p, rfl, hp, (va_up_ne _ _ (by decide)).trans ha, va_up_self _ _ _, fun most hm => ?_⟩)⟩
          unfold rc
          rw [if_neg (by omega), if_neg (by omega), if_neg (by omega)]
    · refine ks_iconst (x := nI 0) dX16_count_34 (by decide) rfl ?_
      refine ks_goto (tgt := 62) dX16_count_35 (by decide) ?_
      refine ks_istore_n dX16_count_62 (by decide) rfl ?_
      refine ks_sub [(2, _), (0, _), (1, _)] rfl ?_
      refine ks_aload_n dX16_count_63 rfl rfl ?_
      refine ks_getf (T := TX16) (kf := 36) kx_2404 rfl in_X16 cl_X16 (by decide) hO rfl dX16_count_64 rfl ?_
      refine ks_tv ha ?_
      refine ks_iconst (x := nI 1) dX16_count_67 (by decide) rfl ?_
      refine ks_addN dX16_count_68 rfl ?_
      refine ks_istore_n dX16_count_69 (by decide) rfl ?_
      refine ks_sub [(3, _), (0, _), (1, _), (2, _)] rfl ?_
      refine ks_aload_n dX16_count_70 rfl rfl ?_
      refine ks_iconst (x := nI 1) dX16_count_71 (by decide) rfl ?_
      refine ks_iload_n dX16_count_72 rfl rfl ?_
      refine ks_addN dX16_count_73 rfl ?_
      refine ks_ti (y := nI 1) rfl ?_
      refine ks_i2lN (by decide) dX16_count_74 rfl ?_
      refine ks_callV (n := 1) (M' := mX16_skip) (c_md_skipN (d := d) (m := 1) hO ha hl hp (by omega) (by omega)) hO cl_X16 rfl kx_2094 kx_2096 kxp_73 kx_30 kx_2097 (by decide +kernel) rfl (by decide) (Nat.le_of_ble_eq_true rfl) rfl dX16_count_75 rfl (fun z2 T2 y2 => ?_)
      obtain ⟨rfl, hT2⟩ := y2
      obtain rfl := hT2.symm
      refine ks_aload_n dX16_count_78 rfl rfl ?_
      refine ks_getf (T := TX16) (kf := 39) kx_2407 rfl in_X16 cl_X16 (by decide) (ks_set_same _ _ _) rfl dX16_count_79 rfl ?_
      refine ks_tv ((va_up_ne _ _ (by decide)).trans hb) ?_
      refine ks_if_eqZ (tgt := 87) dX16_count_82 (by decide) rfl (fun _ => ?_) (fun h => absurd h (by decide))
      refine ks_iload_n dX16_count_87 rfl rfl ?_
      refine ks_if_neN (tgt := 94) (by decide) dX16_count_88 (by decide) rfl (fun h => absurd h (by decide)) (fun _ => ?_)
      refine ks_iload_n dX16_count_91 rfl rfl ?_
      refine ks_i2lN (by omega) dX16_count_92 rfl ?_
      refine ks_lret rfl dX16_count_93 ?_
      refine ⟨u1 _, _, ks_set_same _ _ _, fun k h1 h2 => va_up_ne _ _ h1, Or.inl ⟨g p, p + 1, by omega, by omega, by omega, rfl, (va_up_self _ _ _), ((va_up_ne _ _ (by decide)).trans hb), fun most hm => ?_⟩⟩
      unfold rc
      rw [if_neg (by omega), if_pos (by omega)]
  · refine ks_aload_n dX16_count_11 rfl rfl ?_
    refine ks_iconst (x := nI 1) dX16_count_12 (by decide) rfl ?_
    refine ks_putf (T := TX16) (kf := 39) kx_2407 rfl in_X16 tyX16_ok nmX16 cl_X16 (by decide) hO (Nat.le_of_ble_eq_true rfl) rfl rfl rfl rfl dX16_count_13 rfl ?_
    refine md_put mdp_39 ?_
    refine ks_lconst (x := lN 0) dX16_count_16 (by decide) rfl ?_
    refine ks_lret rfl dX16_count_17 ?_
    refine ⟨u1 _, _, ks_set_same _ _ _, fun k h1 h2 => va_up_ne _ _ h2, Or.inr (Or.inr ⟨_, p, rfl, hp, (va_up_ne _ _ (by decide)).trans ha, va_up_self _ _ _, fun most hm => ?_⟩)⟩
    unfold rc
    rw [if_pos (by omega)]
