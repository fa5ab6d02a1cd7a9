/-! TXVIEW (20; rows 21 .. 26): reading -/
/-- a COUNT in its shortest form, and where it ends -/
def rc (g : Nat → Nat) (p L most : Nat) : Option (Nat × Nat) :=
  if L ≤ p then none else if g p < 253 then (if g p ≤ most then some (g p, p + 1) else none)
  else if g p = 253 ∧ p + 3 ≤ L ∧ 253 ≤ ks_num g (p + 1) 2 ∧ ks_num g (p + 1) 2 ≤ most then some (ks_num g (p + 1) 2, p + 3) else none
theorem rc_some {g : Nat → Nat} {p L most n q : Nat} (h : rc g p L most = some (n, q)) : p < L ∧ n ≤ most ∧ p + 1 ≤ q ∧ q ≤ p + 3 ∧ q ≤ L := by
  unfold rc at h
  split at h
  · cases h
  · split at h
    · split at h
      · cases h; omega
      · cases h
    · split at h
      · cases h; omega
      · cases h
/-- where the input, the output of this number begins -/
def ip (g : Nat → Nat) (L p : Nat) : Nat → Option Nat
  | 0 => some p
  | j + 1 => match ip g L p j with
    | none => none
    | some a => match rc g (a + 36) L L with
      | none => none
      | some (n, s) => some (s + n + 4)
def ot (g : Nat → Nat) (L p : Nat) : Nat → Option Nat
  | 0 => some p
  | j + 1 => match ot g L p j with
    | none => none
    | some a => match rc g (a + 8) L L with
      | none => none
      | some (n, s) => some (s + n)
/-- a transaction: how many inputs, where they begin, how many outputs, where they begin, its end -/
def tx_ (g : Nat → Nat) (b L : Nat) : Option (Nat × Nat × Nat × Nat × Nat) := match rc g (b + 4) L 40 with
  | none => none
  | some (k, p) => match ip g L p k with
    | none => none
    | some q => match rc g q L 180 with
      | none => none
      | some (m, u) => match ot g L u m with
        | none => none
        | some e => if e + 4 ≤ L then some (k, p, m, u, e + 4) else none
theorem ip_s {g : Nat → Nat} {L p j a n s : Nat} (h1 : ip g L p j = some a) (h2 : rc g (a + 36) L L = some (n, s)) : ip g L p (j + 1) = some (s + n + 4) := by simp only [ip, h1, h2]
theorem ip_n {g : Nat → Nat} {L p j a : Nat} (h1 : ip g L p j = some a) (h2 : rc g (a + 36) L L = none) : ∀ k, j < k → ip g L p k = none
  | 0, h => absurd h (Nat.not_lt_zero _)
  | k + 1, h => by
    rcases Nat.lt_or_eq_of_le (Nat.le_of_lt_succ h) with h3 | h3
    · simp only [ip, ip_n h1 h2 k h3]
    · subst h3; simp only [ip, h1, h2]
theorem ot_s {g : Nat → Nat} {L p j a n s : Nat} (h1 : ot g L p j = some a) (h2 : rc g (a + 8) L L = some (n, s)) : ot g L p (j + 1) = some (s + n) := by simp only [ot, h1, h2]
theorem ot_n {g : Nat → Nat} {L p j a : Nat} (h1 : ot g L p j = some a) (h2 : rc g (a + 8) L L = none) : ∀ k, j < k → ot g L p k = none
  | 0, h => absurd h (Nat.not_lt_zero _)
  | k + 1, h => by
    rcases Nat.lt_or_eq_of_le (Nat.le_of_lt_succ h) with h3 | h3
    · simp only [ot, ot_n h1 h2 k h3]
    · subst h3; simp only [ot, h1, h2]
abbrev tvO (y : Nat) (i1 i2 i9 : Value) (x : Value) : ks_E := .inr (13, [.ref y, i1, i2, .ref 21, .ref 22, .ref 23, .ref 24, .ref 25, .ref 26, i9, x])
theorem num2_lt {g : Nat → Nat} (hg : kO g) (p : Nat) : ks_num g p 2 < 65536 := ks_num_lt hg 2 p
set_option maxRecDepth 100000 in
set_option maxHeartbeats 40000000 in
theorem c_readCount {l : Launch} {G : ks_G} {d : Nat} {S : ks_S} {y N x L most : Nat} {g : Nat → Nat} {i1 i2 i9 : Value} (h20 : S.2.2 20 = some (tvO y i1 i2 i9 (.int (nI x)))) (hy : S.2.2 y = some (kB N g)) (hg : kO g) (hL : L ≤ N) (hN : N < 2 ^ 20) (hx : x < 2 ^ 20) (hm : most < 2 ^ 20) : ks_P l G yX10_readCount mX10_readCount (d + 1) [.ref 20, .int (nI L), .int (nI most)] S (fun z S' => (∃ n q, rc g x L most = some (n, q) ∧ z = some (.int (nI n)) ∧ S' = ks_set S 20 (tvO y i1 i2 i9 (.int (nI q)))) ∨ (rc g x L most = none ∧ z = some (.int (-1)) ∧ ∃ q, q ≤ x + 3 ∧ S' = ks_set S 20 (tvO y i1 i2 i9 (.int (nI q))))) := by
  have n_y_20 : y ≠ 20 := ks_neO hy h20
  refine ks_of (by decide) rfl rfl (Nat.le_of_ble_eq_true rfl) ?_
  show ks_X l G mX10_readCount (d + 1) 0 [(0, .ref 20), (1, .int (nI L)), (2, .int (nI most))] [] S _
  refine ks_aload_n dX10_readCount_0 rfl rfl ?_
  refine ks_getf (T := TX10) (kf := 10) kx_572 rfl in_X10 cl_X10 (by decide) h20 rfl dX10_readCount_1 rfl ?_
  refine ks_iload_n dX10_readCount_4 rfl rfl ?_
  refine ks_icmp_ltN (tgt := 10) (by omega) (by omega) dX10_readCount_5 (by decide) rfl (fun hc5 => ?_) (fun hc5 => ?_)
  · refine ks_aload_n dX10_readCount_10 rfl rfl ?_
    refine ks_getf (T := TX10) (kf := 0) kx_554 rfl in_X10 cl_X10 (by decide) h20 rfl dX10_readCount_11 rfl ?_
    refine ks_aload_n dX10_readCount_14 rfl rfl ?_
    refine ks_getf (T := TX10) (kf := 10) kx_572 rfl in_X10 cl_X10 (by decide) h20 rfl dX10_readCount_15 rfl ?_
    refine ks_baldB (i := x) hy rfl (by omega) (by omega) dX10_readCount_18 rfl ?_
    refine ks_sipush (x := nI 255) dX10_readCount_19 (by decide) rfl ?_
    refine ks_andB (hg _) dX10_readCount_22 rfl ?_
    have hy22 : g x < 256 := (hg _)
    refine ks_istore_n dX10_readCount_23 (by decide) rfl ?_
    refine ks_sub [(3, _), (0, _), (1, _), (2, _)] rfl ?_
    refine ks_aload_n dX10_readCount_24 rfl rfl ?_
    refine ks_dup dX10_readCount_25 rfl rfl ?_
    refine ks_getf (T := TX10) (kf := 10) kx_572 rfl in_X10 cl_X10 (by decide) h20 rfl dX10_readCount_26 rfl ?_
    refine ks_iconst (x := nI 1) dX10_readCount_29 (by decide) rfl ?_
    refine ks_addN dX10_readCount_30 rfl ?_
    refine ks_putf (T := TX10) (kf := 10) kx_572 rfl in_X10 tyX10_ok nmX10 cl_X10 (by decide) h20 (Nat.le_of_ble_eq_true rfl) rfl rfl rfl rfl dX10_readCount_31 rfl ?_
    refine ks_iload_n dX10_readCount_34 rfl rfl ?_
    refine ks_sipush (x := nI 253) dX10_readCount_35 (by decide) rfl ?_
    refine ks_icmp_gtN (tgt := 58) (by omega) (by decide) dX10_readCount_38 (by decide) rfl (fun hc38 => ?_) (fun hc38 => ?_)
    · refine ks_iconst (x := (-1)) dX10_readCount_58 (by decide) rfl ?_
      refine ks_iret rfl dX10_readCount_59 ?_
      refine Or.inr ⟨?_, rfl, x + 1, by omega, by first | rfl | (rw [ks_set_set]; rfl)⟩
      unfold rc
      first | rw [if_pos (by omega)] | (rw [if_neg (by omega : ¬ L ≤ x)]; first | (rw [if_pos (by omega), if_neg (by omega)]) | (rw [if_neg (by omega), if_neg (by omega)]))
    · refine ks_iload_n dX10_readCount_41 rfl rfl ?_
      refine ks_sipush (x := nI 253) dX10_readCount_42 (by decide) rfl ?_
      refine ks_icmp_neN (tgt := 60) (by omega) (by decide) dX10_readCount_45 (by decide) rfl (fun hc45 => ?_) (fun hc45 => ?_)
      · refine ks_iload_n dX10_readCount_60 rfl rfl ?_
        refine ks_sipush (x := nI 253) dX10_readCount_61 (by decide) rfl ?_
        refine ks_icmp_neN (tgt := 100) (by omega) (by decide) dX10_readCount_64 (by decide) rfl (fun hc64 => ?_) (fun hc64 => ?_)
        · refine ks_iload_n dX10_readCount_100 rfl rfl ?_
          refine ks_iload_n dX10_readCount_101 rfl rfl ?_
          refine ks_icmp_leN (tgt := 109) (by omega) (by omega) dX10_readCount_102 (by decide) rfl (fun hc102 => ?_) (fun hc102 => ?_)
          · refine ks_iload_n dX10_readCount_109 rfl rfl ?_
            refine ks_iret rfl dX10_readCount_110 ?_
            refine Or.inl ⟨g x, x + 1, ?_, rfl, by first | rfl | (rw [ks_set_set]; rfl)⟩
            unfold rc
            rw [if_neg (by omega : ¬ L ≤ x)]
            first | (rw [if_pos (by omega), if_pos (by omega)]) | (rw [if_neg (by omega), if_pos (by omega)])
          · refine ks_iconst (x := (-1)) dX10_readCount_105 (by decide) rfl ?_
            refine ks_goto (tgt := 110) dX10_readCount_106 (by decide) ?_
            refine ks_iret rfl dX10_readCount_110 ?_
            refine Or.inr ⟨?_, rfl, x + 1, by omega, by first | rfl | (rw [ks_set_set]; rfl)⟩
            unfold rc
            first | rw [if_pos (by omega)] | (rw [if_neg (by omega : ¬ L ≤ x)]; first | (rw [if_pos (by omega), if_neg (by omega)]) | (rw [if_neg (by omega), if_neg (by omega)]))
        · omega
      · refine ks_iload_n dX10_readCount_48 rfl rfl ?_
        refine ks_aload_n dX10_readCount_49 rfl rfl ?_
        refine ks_getf (T := TX10) (kf := 10) kx_572 rfl in_X10 cl_X10 (by decide) (ks_set_same _ _ _) rfl dX10_readCount_50 rfl ?_
        refine ks_subN (by omega) dX10_readCount_53 rfl ?_
        refine ks_iconst (x := nI 2) dX10_readCount_54 (by decide) rfl ?_
        refine ks_icmp_geN (tgt := 60) (by omega) (by decide) dX10_readCount_55 (by decide) rfl (fun hc55 => ?_) (fun hc55 => ?_)
        · refine ks_iload_n dX10_readCount_60 rfl rfl ?_
          refine ks_sipush (x := nI 253) dX10_readCount_61 (by decide) rfl ?_
          refine ks_icmp_neN (tgt := 100) (by omega) (by decide) dX10_readCount_64 (by decide) rfl (fun hc64 => ?_) (fun hc64 => ?_)
          · omega
          · refine ks_aload_n dX10_readCount_67 rfl rfl ?_
            refine ks_getf (T := TX10) (kf := 0) kx_554 rfl in_X10 cl_X10 (by decide) (ks_set_same _ _ _) rfl dX10_readCount_68 rfl ?_
            refine ks_aload_n dX10_readCount_71 rfl rfl ?_
            refine ks_getf (T := TX10) (kf := 10) kx_572 rfl in_X10 cl_X10 (by decide) (ks_set_same _ _ _) rfl dX10_readCount_72 rfl ?_
            refine ks_iconst (x := nI 2) dX10_readCount_75 (by decide) rfl ?_
            refine ks_callS (n := 3) (M' := mX1_number) (c_Buffer_number (i := x + 1) (sz := 2) ((ks_set_ne _ _ n_y_20).trans hy) hg (by omega) (by omega) (by decide)) kx_997 kx_998 kx_2 kx_999 (by decide +kernel) rfl (by decide) (Nat.le_of_ble_eq_true rfl) rfl dX10_readCount_76 rfl (fun r1 S1 h1 => ?_)
            obtain ⟨rfl, rfl⟩ := h1
            have h2 := num2_lt hg (x + 1)
            refine ks_l2iN dX10_readCount_79 rfl ?_
            refine ks_istore_n dX10_readCount_80 (by decide) rfl ?_
            refine ks_sub [(3, _), (0, _), (1, _), (2, _)] rfl ?_
            refine ks_aload_n dX10_readCount_81 rfl rfl ?_
            refine ks_dup dX10_readCount_82 rfl rfl ?_
            refine ks_getf (T := TX10) (kf := 10) kx_572 rfl in_X10 cl_X10 (by decide) (ks_set_same _ _ _) rfl dX10_readCount_83 rfl ?_
            refine ks_iconst (x := nI 2) dX10_readCount_86 (by decide) rfl ?_
            refine ks_addN dX10_readCount_87 rfl ?_
            refine ks_putf (T := TX10) (kf := 10) kx_572 rfl in_X10 tyX10_ok nmX10 cl_X10 (by decide) (ks_set_same _ _ _) (Nat.le_of_ble_eq_true rfl) rfl rfl rfl rfl dX10_readCount_88 rfl ?_
            refine ks_iload_n dX10_readCount_91 rfl rfl ?_
            refine ks_sipush (x := nI 253) dX10_readCount_92 (by decide) rfl ?_
            refine ks_icmp_geN (tgt := 100) (by omega) (by decide) dX10_readCount_95 (by decide) rfl (fun hc95 => ?_) (fun hc95 => ?_)
            · refine ks_iload_n dX10_readCount_100 rfl rfl ?_
              refine ks_iload_n dX10_readCount_101 rfl rfl ?_
              refine ks_icmp_leN (tgt := 109) (by omega) (by omega) dX10_readCount_102 (by decide) rfl (fun hc102 => ?_) (fun hc102 => ?_)
              · refine ks_iload_n dX10_readCount_109 rfl rfl ?_
                refine ks_iret rfl dX10_readCount_110 ?_
                refine Or.inl ⟨ks_num g (x + 1) 2, x + 1 + 2, ?_, rfl, by first | rfl | (rw [ks_set_set]; rfl)⟩
                unfold rc
                rw [if_neg (by omega : ¬ L ≤ x)]
                first | (rw [if_pos (by omega), if_pos (by omega)]) | (rw [if_neg (by omega), if_pos (by omega)])
              · refine ks_iconst (x := (-1)) dX10_readCount_105 (by decide) rfl ?_
                refine ks_goto (tgt := 110) dX10_readCount_106 (by decide) ?_
                refine ks_iret rfl dX10_readCount_110 ?_
                refine Or.inr ⟨?_, rfl, x + 1 + 2, by omega, by first | rfl | (rw [ks_set_set]; rfl)⟩
                unfold rc
                first | rw [if_pos (by omega)] | (rw [if_neg (by omega : ¬ L ≤ x)]; first | (rw [if_pos (by omega), if_neg (by omega)]) | (rw [if_neg (by omega), if_neg (by omega)]))
            · refine ks_iconst (x := (-1)) dX10_readCount_98 (by decide) rfl ?_
              refine ks_iret rfl dX10_readCount_99 ?_
              refine Or.inr ⟨?_, rfl, x + 1 + 2, by omega, by first | rfl | (rw [ks_set_set]; rfl)⟩
              unfold rc
              first | rw [if_pos (by omega)] | (rw [if_neg (by omega : ¬ L ≤ x)]; first | (rw [if_pos (by omega), if_neg (by omega)]) | (rw [if_neg (by omega), if_neg (by omega)]))
        · refine ks_iconst (x := (-1)) dX10_readCount_58 (by decide) rfl ?_
          refine ks_iret rfl dX10_readCount_59 ?_
          refine Or.inr ⟨?_, rfl, x + 1, by omega, by first | rfl | (rw [ks_set_set]; rfl)⟩
          unfold rc
          first | rw [if_pos (by omega)] | (rw [if_neg (by omega : ¬ L ≤ x)]; first | (rw [if_pos (by omega), if_neg (by omega)]) | (rw [if_neg (by omega), if_neg (by omega)]))
  · refine ks_iconst (x := (-1)) dX10_readCount_8 (by decide) rfl ?_
    refine ks_iret rfl dX10_readCount_9 ?_
    refine Or.inr ⟨?_, rfl, x, by omega, (ks_set_id S h20).symm⟩
    unfold rc
    first | rw [if_pos (by omega)] | (rw [if_neg (by omega : ¬ L ≤ x)]; first | (rw [if_pos (by omega), if_neg (by omega)]) | (rw [if_neg (by omega), if_neg (by omega)]))
