/-! DRAFTTX: write -/
set_option maxRecDepth 100000 in
set_option maxHeartbeats 2000000 in
theorem l_wrOut {l : Launch} {G : ks_G} {d : Nat} {b k m : Nat} {ve lo : Int64} {sz id : Nat → Nat} {ix : Nat → Int32} {sq vl : Nat → Int64} {sc : Nat → Nat → Nat} {wb wa N : Nat} (hwb : wb < b ∧ wa < b) (hN : N < 2 ^ 20) : ∀ c i, i + c = m → ∀ (S : ks_S) (M : List Nat), dxU S b k m ve lo sz id ix sq vl sc → bfS S wb wa N (some (M ++ catL outL ((List.range i).map (dxO vl sc sz)))) → M.length + (catL outL ((List.range m).map (dxO vl sc sz))).length + 4 ≤ N → ks_X l G mX4_write (d + 2) 107 [(2, .int (nI i)), (0, .ref b), (1, .ref wb)] [] S (fun z S' => z = none ∧ ks_up S S' [wa, wb] ∧ bfS S' wb wa N (some (M ++ catL outL ((List.range m).map (dxO vl sc sz)) ++ numL lo 4))) := by
  have hlt : ∀ x ∈ [wa, wb], x < b ∨ b + 18 < x := by simp; omega
  intro c
  induction c with
  | zero =>
    intro i hi S M hD hB hfit
    have k6 := hD.2.2.2.2.2.2.2.2.2.2.1
    have m6 := hD.2.2.2.2.2.2.2.2.2.2.2.1
    refine ks_iload_n dX4_write_107 rfl rfl ?_
    refine ks_aload_n dX4_write_108 rfl rfl ?_
    refine ks_getf (T := TX4) (kf := 1) kx_788 rfl in_X4 cl_X4 (by decide) hD.1 rfl dX4_write_109 rfl ?_
    refine ks_icmp_geN (tgt := 165) (by omega) (by omega) dX4_write_112 (by decide) rfl (fun hc => ?_) (fun hc => ?_)
    · obtain rfl : i = m := by omega
      refine ks_aload_n dX4_write_165 rfl rfl ?_
      refine ks_aload_n dX4_write_166 rfl rfl ?_
      refine ks_getf (T := TX4) (kf := 4) kx_793 rfl in_X4 cl_X4 (by decide) hD.1 rfl dX4_write_167 rfl ?_
      refine ks_iconst (x := nI 4) dX4_write_170 (by decide) rfl ?_
      refine ks_callV (n := 2) (M' := mX1_addNumber) (bf_number (d := d + 1) (sz := 4) (v := lo) hB (by omega) (by decide)) (hB.choose_spec.choose_spec.2.2.2.1) cl_X1 rfl kx_866 kx_829 kx_830 kx_2 kx_831 (by decide +kernel) rfl (by decide) (Nat.le_of_ble_eq_true rfl) rfl dX4_write_171 rfl (fun r1 T1 q1 => ?_)
      obtain ⟨rfl, u1, b1⟩ := q1
      rw [bfA_fit (by simp only [List.length_append, bytL_len, numL_len] at hfit ⊢; omega)] at b1
      have d1 := hD.up u1 hlt
      refine ks_ret rfl dX4_write_174 ?_
      exact ⟨rfl, u1, b1⟩
    · exact absurd (show m ≤ i by omega) hc
  | succ c ih =>
    intro i hi S M hD hB hfit
    have k6 := hD.2.2.2.2.2.2.2.2.2.2.1
    have m6 := hD.2.2.2.2.2.2.2.2.2.2.2.1
    refine ks_iload_n dX4_write_107 rfl rfl ?_
    refine ks_aload_n dX4_write_108 rfl rfl ?_
    refine ks_getf (T := TX4) (kf := 1) kx_788 rfl in_X4 cl_X4 (by decide) hD.1 rfl dX4_write_109 rfl ?_
    refine ks_icmp_geN (tgt := 165) (by omega) (by omega) dX4_write_112 (by decide) rfl (fun hc => ?_) (fun hc => ?_)
    · exact absurd hc (by omega)
    · have hz := hD.2.2.2.2.2.2.2.2.2.2.2.2.2.1 i (by omega)
      have hm := catL_mono outL (dxO vl sc sz) (show i + 1 ≤ m by omega)
      rw [catL_s] at hm
      simp only [outL, dxO, List.length_append, bytL_len, numL_len] at hm
      refine ks_bipush (x := nI 6) dX4_write_115 (by decide) rfl ?_
      refine ks_iload_n dX4_write_117 rfl rfl ?_
      refine ks_addN dX4_write_118 rfl ?_
      refine ks_istore_n dX4_write_119 (by decide) rfl ?_
      refine ks_sub [(3, _), (2, _), (0, _), (1, _)] rfl ?_
      refine ks_aload_n dX4_write_120 rfl rfl ?_
      refine ks_aload_n dX4_write_121 rfl rfl ?_
      refine ks_getf (T := TX4) (kf := 8) kx_797 rfl in_X4 cl_X4 (by decide) hD.1 rfl dX4_write_122 rfl ?_
      refine ks_iload_n dX4_write_125 rfl rfl ?_
      refine ks_laldN (i := i) hD.2.2.2.2.2.1 rfl (by omega) (by decide) dX4_write_126 rfl ?_
      refine ks_bipush (x := nI 8) dX4_write_127 (by decide) rfl ?_
      refine ks_callV (n := 2) (M' := mX1_addNumber) (bf_number (d := d + 1) (sz := 8) (v := vl i) hB (by omega) (by decide)) (hB.choose_spec.choose_spec.2.2.2.1) cl_X1 rfl kx_866 kx_829 kx_830 kx_2 kx_831 (by decide +kernel) rfl (by decide) (Nat.le_of_ble_eq_true rfl) rfl dX4_write_129 rfl (fun r1 T1 q1 => ?_)
      obtain ⟨rfl, u1, b1⟩ := q1
      rw [bfA_fit (by simp only [List.length_append, bytL_len, numL_len] at hfit ⊢; omega)] at b1
      have d1 := hD.up u1 hlt
      refine ks_aload_n dX4_write_132 rfl rfl ?_
      refine ks_aload_n dX4_write_133 rfl rfl ?_
      refine ks_getf (T := TX4) (kf := 2) kx_790 rfl in_X4 cl_X4 (by decide) d1.1 rfl dX4_write_134 rfl ?_
      refine ks_iload_n dX4_write_137 rfl rfl ?_
      refine ks_ialdN (i := 6 + i) d1.2.1 rfl (by omega) (by decide) dX4_write_138 rfl ?_
      refine ks_callV (n := 1) (M' := mX1_addCount) (bf_count (d := d + 1) (n := sz (6 + i)) b1 (by omega) (by omega)) (b1.choose_spec.choose_spec.2.2.2.1) cl_X1 rfl kx_867 kx_868 kx_869 kx_2 kx_870 (by decide +kernel) rfl (by decide) (Nat.le_of_ble_eq_true rfl) rfl dX4_write_139 rfl (fun r2 T2 q2 => ?_)
      obtain ⟨rfl, u2, b2⟩ := q2
      rw [bfA_fit (by simp only [List.length_append, bytL_len, numL_len] at hfit ⊢; omega)] at b2
      have d2 := d1.up u2 hlt
      refine ks_aload_n dX4_write_142 rfl rfl ?_
      refine ks_aload_n dX4_write_143 rfl rfl ?_
      refine ks_getf (T := TX4) (kf := 9) kx_798 rfl in_X4 cl_X4 (by decide) d2.1 rfl dX4_write_144 rfl ?_
      refine ks_iload_n dX4_write_147 rfl rfl ?_
      refine ks_aaldN (i := 6 + i) (b := b + 7 + (6 + i)) (by decide) d2.2.2.2.2.2.2.1 rfl (by omega) (by decide) (if_pos (by omega)) dX4_write_148 rfl ?_
      refine ks_iconst (x := nI 0) dX4_write_149 (by decide) rfl ?_
      refine ks_aload_n dX4_write_150 rfl rfl ?_
      refine ks_getf (T := TX4) (kf := 2) kx_790 rfl in_X4 cl_X4 (by decide) d2.1 rfl dX4_write_151 rfl ?_
      refine ks_iload_n dX4_write_154 rfl rfl ?_
      refine ks_ialdN (i := 6 + i) d2.2.1 rfl (by omega) (by decide) dX4_write_155 rfl ?_
      refine ks_callV (n := 3) (M' := mX1_addBytes) (bf_bytes (d := d) (i := 0) (n := sz (6 + i)) b2 (by omega) (d2.2.2.2.2.2.2.2.1 (6 + i) (by omega)) (d2.2.2.2.2.2.2.2.2.2.1 (6 + i)) (by omega) (by decide)) (b2.choose_spec.choose_spec.2.2.2.1) cl_X1 rfl kx_871 kx_872 kx_873 kx_2 kx_874 (by decide +kernel) rfl (by decide) (Nat.le_of_ble_eq_true rfl) rfl dX4_write_156 rfl (fun r3 T3 q3 => ?_)
      obtain ⟨rfl, u3, b3⟩ := q3
      rw [bfA_fit (by simp only [List.length_append, bytL_len, numL_len] at hfit ⊢; omega)] at b3
      have d3 := d2.up u3 hlt
      refine ks_incN (c := 1) (e := i + 1) dX4_write_159 rfl (by decide) rfl (by decide) rfl ?_
      refine ks_sub [(2, _), (0, _), (1, _), (3, _)] rfl ?_
      refine ks_goto (tgt := 107) dX4_write_162 (by decide) ?_
      refine (ks_sub [(2, _), (0, _), (1, _)] rfl (ih (i + 1) (by omega) _ M d3 (?_ : bfS _ _ _ _ _) hfit)).mono ?_
      · rw [catL_s]
        simp only [outL, dxO, bytL_len, List.append_assoc] at b3 ⊢
        exact b3
      · rintro z S' ⟨e1, e2, e3⟩
        exact ⟨e1, ((u1.trans u2).trans u3).trans e2, e3⟩
set_option maxRecDepth 100000 in
set_option maxHeartbeats 2000000 in
theorem l_wrIn {l : Launch} {G : ks_G} {d : Nat} {b k m : Nat} {ve lo : Int64} {sz id : Nat → Nat} {ix : Nat → Int32} {sq vl : Nat → Int64} {sc : Nat → Nat → Nat} {wb wa N : Nat} (hwb : wb < b ∧ wa < b) (hN : N < 2 ^ 20) : ∀ c i, i + c = k → ∀ (S : ks_S) (M : List Nat), dxU S b k m ve lo sz id ix sq vl sc → bfS S wb wa N (some (M ++ catL inL ((List.range i).map (dxI id ix sc sz sq)))) → M.length + (catL inL ((List.range k).map (dxI id ix sc sz sq))).length + (cntL m).length + (catL outL ((List.range m).map (dxO vl sc sz))).length + 4 ≤ N → ks_X l G mX4_write (d + 2) 19 [(2, .int (nI i)), (0, .ref b), (1, .ref wb)] [] S (fun z S' => z = none ∧ ks_up S S' [wa, wb] ∧ bfS S' wb wa N (some (M ++ catL inL ((List.range k).map (dxI id ix sc sz sq)) ++ cntL m ++ catL outL ((List.range m).map (dxO vl sc sz)) ++ numL lo 4))) := by
  have hlt : ∀ x ∈ [wa, wb], x < b ∨ b + 18 < x := by simp; omega
  intro c
  induction c with
  | zero =>
    intro i hi S M hD hB hfit
    have k6 := hD.2.2.2.2.2.2.2.2.2.2.1
    have m6 := hD.2.2.2.2.2.2.2.2.2.2.2.1
    refine ks_iload_n dX4_write_19 rfl rfl ?_
    refine ks_aload_n dX4_write_20 rfl rfl ?_
    refine ks_getf (T := TX4) (kf := 0) kx_786 rfl in_X4 cl_X4 (by decide) hD.1 rfl dX4_write_21 rfl ?_
    refine ks_icmp_geN (tgt := 97) (by omega) (by omega) dX4_write_24 (by decide) rfl (fun hc => ?_) (fun hc => ?_)
    · obtain rfl : i = k := by omega
      refine ks_aload_n dX4_write_97 rfl rfl ?_
      refine ks_aload_n dX4_write_98 rfl rfl ?_
      refine ks_getf (T := TX4) (kf := 1) kx_788 rfl in_X4 cl_X4 (by decide) hD.1 rfl dX4_write_99 rfl ?_
      refine ks_callV (n := 1) (M' := mX1_addCount) (bf_count (d := d + 1) (n := m) hB (by omega) (by omega)) (hB.choose_spec.choose_spec.2.2.2.1) cl_X1 rfl kx_867 kx_868 kx_869 kx_2 kx_870 (by decide +kernel) rfl (by decide) (Nat.le_of_ble_eq_true rfl) rfl dX4_write_102 rfl (fun r1 T1 q1 => ?_)
      obtain ⟨rfl, u1, b1⟩ := q1
      rw [bfA_fit (by simp only [List.length_append, bytL_len, numL_len] at hfit ⊢; omega)] at b1
      have d1 := hD.up u1 hlt
      refine ks_iconst (x := nI 0) dX4_write_105 (by decide) rfl ?_
      refine ks_istore_n dX4_write_106 (by decide) rfl ?_
      refine ks_sub [(2, _), (0, _), (1, _)] rfl ?_
      refine (ks_sub [(2, _), (0, _), (1, _)] rfl (l_wrOut hwb hN m 0 (by omega) _ (M ++ catL inL ((List.range i).map (dxI id ix sc sz sq)) ++ cntL m) d1 (?_ : bfS _ _ _ _ _) (by simp only [List.length_append] at hfit ⊢; omega))).mono ?_
      · show bfS _ _ _ _ (some (_ ++ []))
        rw [List.append_nil]; exact b1
      · rintro z S' ⟨e1, e2, e3⟩
        exact ⟨e1, u1.trans e2, e3⟩
    · exact absurd (show k ≤ i by omega) hc
  | succ c ih =>
    intro i hi S M hD hB hfit
    have k6 := hD.2.2.2.2.2.2.2.2.2.2.1
    have m6 := hD.2.2.2.2.2.2.2.2.2.2.2.1
    refine ks_iload_n dX4_write_19 rfl rfl ?_
    refine ks_aload_n dX4_write_20 rfl rfl ?_
    refine ks_getf (T := TX4) (kf := 0) kx_786 rfl in_X4 cl_X4 (by decide) hD.1 rfl dX4_write_21 rfl ?_
    refine ks_icmp_geN (tgt := 97) (by omega) (by omega) dX4_write_24 (by decide) rfl (fun hc => ?_) (fun hc => ?_)
    · exact absurd hc (by omega)
    · have hz := hD.2.2.2.2.2.2.2.2.2.2.2.2.1 i (by omega)
      have hm := catL_mono inL (dxI id ix sc sz sq) (show i + 1 ≤ k by omega)
      rw [catL_s] at hm
      simp only [inL, dxI, List.length_append, bytL_len, numL_len] at hm
      refine ks_aload_n dX4_write_27 rfl rfl ?_
      refine ks_aload_n dX4_write_28 rfl rfl ?_
      refine ks_getf (T := TX4) (kf := 5) kx_794 rfl in_X4 cl_X4 (by decide) hD.1 rfl dX4_write_29 rfl ?_
      refine ks_bipush (x := nI 32) dX4_write_32 (by decide) rfl ?_
      refine ks_iload_n dX4_write_34 rfl rfl ?_
      refine ks_mulN dX4_write_35 rfl ?_
      refine ks_bipush (x := nI 32) dX4_write_36 (by decide) rfl ?_
      refine ks_callV (n := 3) (M' := mX1_addBytes) (bf_bytes (d := d) (i := 32 * i) (n := 32) hB (by omega) hD.2.2.1 hD.2.2.2.2.2.2.2.2.1 (by omega) (by decide)) (hB.choose_spec.choose_spec.2.2.2.1) cl_X1 rfl kx_871 kx_872 kx_873 kx_2 kx_874 (by decide +kernel) rfl (by decide) (Nat.le_of_ble_eq_true rfl) rfl dX4_write_38 rfl (fun r1 T1 q1 => ?_)
      obtain ⟨rfl, u1, b1⟩ := q1
      rw [bfA_fit (by simp only [List.length_append, bytL_len, numL_len] at hfit ⊢; omega)] at b1
      have d1 := hD.up u1 hlt
      refine ks_aload_n dX4_write_41 rfl rfl ?_
      refine ks_aload_n dX4_write_42 rfl rfl ?_
      refine ks_getf (T := TX4) (kf := 6) kx_795 rfl in_X4 cl_X4 (by decide) d1.1 rfl dX4_write_43 rfl ?_
      refine ks_iload_n dX4_write_46 rfl rfl ?_
      refine ks_ialdN (i := i) d1.2.2.2.1 rfl (by omega) (by decide) dX4_write_47 rfl ?_
      refine ks_i2l dX4_write_48 rfl ?_
      refine ks_iconst (x := nI 4) dX4_write_49 (by decide) rfl ?_
      refine ks_callV (n := 2) (M' := mX1_addNumber) (bf_number (d := d + 1) (sz := 4) (v := (ix i).toInt64) b1 (by omega) (by decide)) (b1.choose_spec.choose_spec.2.2.2.1) cl_X1 rfl kx_866 kx_829 kx_830 kx_2 kx_831 (by decide +kernel) rfl (by decide) (Nat.le_of_ble_eq_true rfl) rfl dX4_write_50 rfl (fun r2 T2 q2 => ?_)
      obtain ⟨rfl, u2, b2⟩ := q2
      rw [bfA_fit (by simp only [List.length_append, bytL_len, numL_len] at hfit ⊢; omega)] at b2
      have d2 := d1.up u2 hlt
      refine ks_aload_n dX4_write_53 rfl rfl ?_
      refine ks_aload_n dX4_write_54 rfl rfl ?_
      refine ks_getf (T := TX4) (kf := 2) kx_790 rfl in_X4 cl_X4 (by decide) d2.1 rfl dX4_write_55 rfl ?_
      refine ks_iload_n dX4_write_58 rfl rfl ?_
      refine ks_ialdN (i := i) d2.2.1 rfl (by omega) (by decide) dX4_write_59 rfl ?_
      refine ks_callV (n := 1) (M' := mX1_addCount) (bf_count (d := d + 1) (n := sz i) b2 (by omega) (by omega)) (b2.choose_spec.choose_spec.2.2.2.1) cl_X1 rfl kx_867 kx_868 kx_869 kx_2 kx_870 (by decide +kernel) rfl (by decide) (Nat.le_of_ble_eq_true rfl) rfl dX4_write_60 rfl (fun r3 T3 q3 => ?_)
      obtain ⟨rfl, u3, b3⟩ := q3
      rw [bfA_fit (by simp only [List.length_append, bytL_len, numL_len] at hfit ⊢; omega)] at b3
      have d3 := d2.up u3 hlt
      refine ks_aload_n dX4_write_63 rfl rfl ?_
      refine ks_aload_n dX4_write_64 rfl rfl ?_
      refine ks_getf (T := TX4) (kf := 9) kx_798 rfl in_X4 cl_X4 (by decide) d3.1 rfl dX4_write_65 rfl ?_
      refine ks_iload_n dX4_write_68 rfl rfl ?_
      refine ks_aaldN (i := i) (b := b + 7 + i) (by decide) d3.2.2.2.2.2.2.1 rfl (by omega) (by decide) (if_pos (by omega)) dX4_write_69 rfl ?_
      refine ks_iconst (x := nI 0) dX4_write_70 (by decide) rfl ?_
      refine ks_aload_n dX4_write_71 rfl rfl ?_
      refine ks_getf (T := TX4) (kf := 2) kx_790 rfl in_X4 cl_X4 (by decide) d3.1 rfl dX4_write_72 rfl ?_
      refine ks_iload_n dX4_write_75 rfl rfl ?_
      refine ks_ialdN (i := i) d3.2.1 rfl (by omega) (by decide) dX4_write_76 rfl ?_
      refine ks_callV (n := 3) (M' := mX1_addBytes) (bf_bytes (d := d) (i := 0) (n := sz i) b3 (by omega) (d3.2.2.2.2.2.2.2.1 i (by omega)) (d3.2.2.2.2.2.2.2.2.2.1 i) (by omega) (by decide)) (b3.choose_spec.choose_spec.2.2.2.1) cl_X1 rfl kx_871 kx_872 kx_873 kx_2 kx_874 (by decide +kernel) rfl (by decide) (Nat.le_of_ble_eq_true rfl) rfl dX4_write_77 rfl (fun r4 T4 q4 => ?_)
      obtain ⟨rfl, u4, b4⟩ := q4
      rw [bfA_fit (by simp only [List.length_append, bytL_len, numL_len] at hfit ⊢; omega)] at b4
      have d4 := d3.up u4 hlt
      refine ks_aload_n dX4_write_80 rfl rfl ?_
      refine ks_aload_n dX4_write_81 rfl rfl ?_
      refine ks_getf (T := TX4) (kf := 7) kx_796 rfl in_X4 cl_X4 (by decide) d4.1 rfl dX4_write_82 rfl ?_
      refine ks_iload_n dX4_write_85 rfl rfl ?_
      refine ks_laldN (i := i) d4.2.2.2.2.1 rfl (by omega) (by decide) dX4_write_86 rfl ?_
      refine ks_iconst (x := nI 4) dX4_write_87 (by decide) rfl ?_
      refine ks_callV (n := 2) (M' := mX1_addNumber) (bf_number (d := d + 1) (sz := 4) (v := sq i) b4 (by omega) (by decide)) (b4.choose_spec.choose_spec.2.2.2.1) cl_X1 rfl kx_866 kx_829 kx_830 kx_2 kx_831 (by decide +kernel) rfl (by decide) (Nat.le_of_ble_eq_true rfl) rfl dX4_write_88 rfl (fun r5 T5 q5 => ?_)
      obtain ⟨rfl, u5, b5⟩ := q5
      rw [bfA_fit (by simp only [List.length_append, bytL_len, numL_len] at hfit ⊢; omega)] at b5
      have d5 := d4.up u5 hlt
      refine ks_incN (c := 1) (e := i + 1) dX4_write_91 rfl (by decide) rfl (by decide) rfl ?_
      refine ks_sub [(2, _), (0, _), (1, _)] rfl ?_
      refine ks_goto (tgt := 19) dX4_write_94 (by decide) ?_
      refine (ks_sub [(2, _), (0, _), (1, _)] rfl (ih (i + 1) (by omega) _ M d5 (?_ : bfS _ _ _ _ _) hfit)).mono ?_
      · rw [catL_s]
        simp only [inL, dxI, bytL_len, List.append_assoc] at b5 ⊢
        exact b5
      · rintro z S' ⟨e1, e2, e3⟩
        exact ⟨e1, ((((u1.trans u2).trans u3).trans u4).trans u5).trans e2, e3⟩
set_option maxRecDepth 100000 in
set_option maxHeartbeats 2000000 in
theorem c_write {l : Launch} {G : ks_G} {d : Nat} {S : ks_S} {b : Nat} {D : dTx} (h : dx_ok S b D) {wb wa N : Nat} (hwb : wb < b ∧ wa < b) (hN : N < 2 ^ 20) {M : List Nat} (hB : bfS S wb wa N (some M)) (hfit : M.length + (txL D).length ≤ N) : ks_P l G yX4_write mX4_write (d + 2) [.ref b, .ref wb] S (fun z S' => z = none ∧ ks_up S S' [wa, wb] ∧ bfS S' wb wa N (some (M ++ txL D))) := by
  have hlt : ∀ x ∈ [wa, wb], x < b ∨ b + 18 < x := by simp; omega
  obtain ⟨k, m, sz, id, ix, sq, vl, sc, hD, e1, e2⟩ := h
  obtain ⟨ve, lo, il, ol⟩ := D
  simp only at hD e1 e2
  subst e1 e2
  have k6 := hD.2.2.2.2.2.2.2.2.2.2.1
  simp only [txL, List.length_append, numL_len, List.length_map, List.length_range] at hfit
  refine ks_of (by decide) rfl rfl (Nat.le_of_ble_eq_true rfl) ?_
  show ks_X l G mX4_write (d + 2) 0 [(0, .ref b), (1, .ref wb)] [] S _
  refine ks_aload_n dX4_write_0 rfl rfl ?_
  refine ks_aload_n dX4_write_1 rfl rfl ?_
  refine ks_getf (T := TX4) (kf := 3) kx_792 rfl in_X4 cl_X4 (by decide) hD.1 rfl dX4_write_2 rfl ?_
  refine ks_iconst (x := nI 4) dX4_write_5 (by decide) rfl ?_
  refine ks_callV (n := 2) (M' := mX1_addNumber) (bf_number (d := d + 1) (sz := 4) (v := ve) hB (by omega) (by decide)) (hB.choose_spec.choose_spec.2.2.2.1) cl_X1 rfl kx_866 kx_829 kx_830 kx_2 kx_831 (by decide +kernel) rfl (by decide) (Nat.le_of_ble_eq_true rfl) rfl dX4_write_6 rfl (fun r1 T1 q1 => ?_)
  obtain ⟨rfl, u1, b1⟩ := q1
  rw [bfA_fit (by simp only [numL_len]; omega)] at b1
  have d1 := hD.up u1 hlt
  refine ks_aload_n dX4_write_9 rfl rfl ?_
  refine ks_aload_n dX4_write_10 rfl rfl ?_
  refine ks_getf (T := TX4) (kf := 0) kx_786 rfl in_X4 cl_X4 (by decide) d1.1 rfl dX4_write_11 rfl ?_
  refine ks_callV (n := 1) (M' := mX1_addCount) (bf_count (d := d + 1) (n := k) b1 (by omega) (by omega)) (b1.choose_spec.choose_spec.2.2.2.1) cl_X1 rfl kx_867 kx_868 kx_869 kx_2 kx_870 (by decide +kernel) rfl (by decide) (Nat.le_of_ble_eq_true rfl) rfl dX4_write_14 rfl (fun r2 T2 q2 => ?_)
  obtain ⟨rfl, u2, b2⟩ := q2
  rw [bfA_fit (by simp only [List.length_append, numL_len]; omega)] at b2
  have d2 := d1.up u2 hlt
  refine ks_iconst (x := nI 0) dX4_write_17 (by decide) rfl ?_
  refine ks_istore_n dX4_write_18 (by decide) rfl ?_
  refine ks_sub [(2, _), (0, _), (1, _)] rfl ?_
  refine (ks_sub [(2, _), (0, _), (1, _)] rfl (l_wrIn hwb hN k 0 (by omega) _ (M ++ numL ve 4 ++ cntL k) d2 (?_ : bfS _ _ _ _ _) (by simp only [List.length_append, numL_len]; omega))).mono ?_
  · show bfS _ _ _ _ (some (_ ++ []))
    rw [List.append_nil]; exact b2
  · rintro z S' ⟨e1, e2, e3⟩
    refine ⟨e1, (u1.trans u2).trans e2, ?_⟩
    simp only [txL, List.length_map, List.length_range, List.append_assoc] at e3 ⊢
    exact e3
theorem cntL_le (n : Nat) : (cntL n).length ≤ 3 := by rw [cntL_len]; split <;> omega
/-- a draft's transaction is never too long for 8000 bytes -/
theorem txL_le {S : ks_S} {b : Nat} {D : dTx} (h : dx_ok S b D) : (txL D).length ≤ 7800 := by
  obtain ⟨k, m, sz, id, ix, sq, vl, sc, hD, e1, e2⟩ := h
  obtain ⟨ve, lo, il, ol⟩ := D
  simp only at e1 e2 hD
  subst e1 e2
  have h1 : ∀ i, i ≤ k → (catL inL ((List.range i).map (dxI id ix sc sz sq))).length ≤ i * 643 := by
    intro i
    induction i with
    | zero => intro _; exact Nat.le_refl _
    | succ i ih =>
      intro hi
      have h2 := ih (by omega)
      have h3 := hD.2.2.2.2.2.2.2.2.2.2.2.2.1 i (by omega)
      have h4 := cntL_le (sz i)
      rw [catL_s]
      simp only [inL, dxI, List.length_append, bytL_len, numL_len]
      omega
  have h2 : ∀ i, i ≤ m → (catL outL ((List.range i).map (dxO vl sc sz))).length ≤ i * 611 := by
    intro i
    induction i with
    | zero => intro _; exact Nat.le_refl _
    | succ i ih =>
      intro hi
      have h2 := ih (by omega)
      have h3 := hD.2.2.2.2.2.2.2.2.2.2.2.2.2.1 i (by omega)
      have h4 := cntL_le (sz (6 + i))
      rw [catL_s]
      simp only [outL, dxO, List.length_append, bytL_len, numL_len]
      omega
  have k6 := hD.2.2.2.2.2.2.2.2.2.2.1
  have m6 := hD.2.2.2.2.2.2.2.2.2.2.2.1
  have h3 := h1 k (Nat.le_refl _)
  have h4 := h2 m (Nat.le_refl _)
  have h5 := cntL_le k
  have h6 := cntL_le m
  simp only [txL, List.length_append, numL_len, List.length_map, List.length_range]
  omega
