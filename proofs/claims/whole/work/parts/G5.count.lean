/-! THE REFERENCE: numbers and counts of a text -/
theorem lN_ng9 {v : Nat} (h1 : 2 ^ 63 ≤ v) (h2 : v < 2 ^ 64) : lN v < 0 := by
  rw [Int64.lt_iff_toInt_lt]
  show (lN v).toBitVec.toInt < 0
  rw [wb_tb, BitVec.toInt_eq_toNat_cond, BitVec.toNat_ofNat, Nat.mod_eq_of_lt h2, if_neg (by omega)]
  omega
theorem lN_bg9 {v : Nat} (h1 : 65536 ≤ v) (h2 : v < 2 ^ 64) : lN v < 0 ∨ lN 65535 < lN v := by
  by_cases c : v < 2 ^ 63
  · exact Or.inr ((pk_lLT (by decide) c).mpr (by omega))
  · exact Or.inl (lN_ng9 (by omega) h2)
set_option maxRecDepth 100000 in
set_option maxHeartbeats 800000 in
theorem c_md_byteAt {l : Launch} {G : ks_G} {d : Nat} {S : ks_S} {V : Nat → Value} {y N i : Nat} {g : Nat → Nat} (hO : S.2.2 290 = some (rfE V)) (ht : V 38 = .ref y) (hy : S.2.2 y = some (kB N g)) (kg : kO g) (hi : i < N) (hN : N < 2 ^ 28) : ks_P l G yX16_byteAt mX16_byteAt d [.ref 290, .int (nI i)] S (fun z S' => z = some (.int (nI (g i))) ∧ S' = S) := by
  refine ks_of (by decide) rfl rfl (Nat.le_of_ble_eq_true rfl) ?_
  show ks_X l G mX16_byteAt d 0 [(0, .ref 290), (1, .int (nI i))] [] S _
  refine ks_aload_n dX16_byteAt_0 rfl rfl ?_
  refine ks_getf (T := TX16) (kf := 38) kx_2406 rfl in_X16 cl_X16 (by decide) hO rfl dX16_byteAt_1 rfl ?_
  refine ks_tv ht ?_
  refine ks_iload_n dX16_byteAt_4 rfl rfl ?_
  refine ks_baldB (i := i) hy rfl (by omega) (by omega) dX16_byteAt_5 rfl ?_
  refine ks_sipush (x := nI 255) dX16_byteAt_6 (by decide) rfl ?_
  refine ks_andB (kg _) dX16_byteAt_9 rfl ?_
  have hy9 : g i < 256 := (kg _)
  refine ks_iret rfl dX16_byteAt_10 ?_
  exact ⟨rfl, rfl⟩
set_option maxRecDepth 100000 in
set_option maxHeartbeats 800000 in
theorem c_md_number {l : Launch} {G : ks_G} {d : Nat} {S : ks_S} {y N i n : Nat} {g : Nat → Nat} (hy : S.2.2 y = some (kB N g)) (kg : kO g) (hi : i + n ≤ N) (hn : n ≤ 8) (hN : N < 2 ^ 28) : ks_P l G yX16_number mX16_number d [.ref 290, .ref y, .int (nI i), .int (nI n)] S (fun z S' => z = some (.long (lN (ks_num g i n))) ∧ S' = S) := by
  have loop : ∀ k, k ≤ n → ks_X l G mX16_number d 8 [(0, .ref 290), (1, .ref y), (2, .int (nI i)), (3, .int (nI n)), (4, .long (lN (ks_num g (i + k) (n - k)))), (6, .int (nI k - 1))] [] S (fun z S' => z = some (.long (lN (ks_num g i n))) ∧ S' = S) := by
    intro k
    induction k with
    | zero =>
      intro hk
      refine ks_iload dX16_number_8 rfl rfl ?_
      refine ks_if_ltD (tgt := 38) (by omega) dX16_number_10 (by decide) rfl (fun _ => ?_) (fun h => absurd rfl h)
      refine ks_lload dX16_number_38 rfl rfl ?_
      refine ks_lret rfl dX16_number_40 ?_
      exact ⟨rfl, rfl⟩
    | succ k ih =>
      intro hk
      rw [nI_D (by omega : 0 < k + 1), Nat.add_sub_cancel]
      have hX : ks_num g (i + (k + 1)) (n - (k + 1)) < 256 ^ (n - (k + 1)) := ks_num_lt kg _ _
      have hX2 : 256 ^ (n - (k + 1)) ≤ 256 ^ 7 := Nat.pow_le_pow_right (by decide) (by omega)
      have eX : ks_num g (i + k) (n - k) = g (i + k) + 256 * ks_num g (i + (k + 1)) (n - (k + 1)) := by
        rw [show n - k = (n - (k + 1)) + 1 by omega]
        rfl
      generalize ks_num g (i + (k + 1)) (n - (k + 1)) = X at *
      have b0 := kg (i + k)
      refine ks_iload dX16_number_8 rfl rfl ?_
      refine ks_if_ltN (tgt := 38) (by omega) dX16_number_10 (by decide) rfl ?_
      refine ks_lload dX16_number_13 rfl rfl ?_
      refine ks_bipush (x := nI 8) dX16_number_15 (by decide) rfl ?_
      refine ks_lshlN (k := 8) (by decide) dX16_number_17 rfl ?_
      refine ks_aload_n dX16_number_18 rfl rfl ?_
      refine ks_iload_n dX16_number_19 rfl rfl ?_
      refine ks_iload dX16_number_20 rfl rfl ?_
      refine ks_addN dX16_number_22 rfl ?_
      refine ks_baldB (i := i + k) hy rfl (by omega) (by omega) dX16_number_23 rfl ?_
      refine ks_sipush (x := nI 255) dX16_number_24 (by decide) rfl ?_
      refine ks_andB (kg _) dX16_number_27 rfl ?_
      have hy27 : g (i + k) < 256 := (kg _)
      refine ks_i2lN (by omega) dX16_number_28 rfl ?_
      refine ks_lorN (a := X) (k := 8) (p := 2 ^ 8) rfl (by omega) (by omega) dX16_number_29 rfl ?_
      refine ks_lstore dX16_number_30 (by decide) rfl ?_
      refine ks_sub [(4, _), (0, _), (1, _), (2, _), (3, _), (6, _)] rfl ?_
      refine ks_incD dX16_number_32 rfl (by decide) (by decide) rfl ?_
      refine ks_sub [(6, _), (0, _), (1, _), (2, _), (3, _), (4, _)] rfl ?_
      refine ks_goto (tgt := 8) dX16_number_35 (by decide) ?_
      refine ks_sub [(0, _), (1, _), (2, _), (3, _), (4, .long (lN (ks_num g (i + k) (n - k)))), (6, _)] ?_ (ih (by omega))
      rw [eX, show g (i + k) + 256 * X = X * 2 ^ 8 + g (i + k) by omega]
      rfl
  refine ks_of (by decide) rfl rfl (Nat.le_of_ble_eq_true rfl) ?_
  show ks_X l G mX16_number d 0 [(0, .ref 290), (1, .ref y), (2, .int (nI i)), (3, .int (nI n))] [] S _
  refine ks_lconst (x := lN 0) dX16_number_0 (by decide) rfl ?_
  refine ks_lstore dX16_number_1 (by decide) rfl ?_
  refine ks_sub [(4, _), (0, _), (1, _), (2, _), (3, _)] rfl ?_
  refine ks_iload_n dX16_number_3 rfl rfl ?_
  refine ks_iconst (x := nI 1) dX16_number_4 (by decide) rfl ?_
  refine ks_subD dX16_number_5 rfl ?_
  refine ks_istore dX16_number_6 (by decide) rfl ?_
  refine ks_sub [(6, _), (0, _), (1, _), (2, _), (3, _), (4, _)] rfl ?_
  refine ks_sub [(0, _), (1, _), (2, _), (3, _), (4, .long (lN (ks_num g (i + n) (n - n)))), (6, _)] ?_ (loop n (Nat.le_refl _))
  rw [Nat.sub_self]
  rfl
set_option maxRecDepth 100000 in
set_option maxHeartbeats 800000 in
theorem c_md_skipN {l : Launch} {G : ks_G} {d : Nat} {S : ks_S} {V : Nat → Value} {p L : Nat} (hO : S.2.2 290 = some (rfE V)) (ha : V 36 = .int (nI p)) (hl : V 37 = .int (nI L)) (hp : p ≤ L) (hL : L < 2 ^ 20) {m : Nat} (hm : p + m ≤ L) : ks_P l G yX16_skip mX16_skip d [.ref 290, .long (lN m)] S (fun z S' => z = none ∧ S' = ks_set S 290 (rfE (va_up V 36 (.int (nI (p + m)))))) := by
  refine ks_of (by decide) rfl rfl (Nat.le_of_ble_eq_true rfl) ?_
  show ks_X l G mX16_skip d 0 [(0, .ref 290), (1, .long (lN m))] [] S _
  refine ks_lload_n dX16_skip_0 rfl rfl ?_
  refine ks_lconst (x := lN 0) dX16_skip_1 (by decide) rfl ?_
  refine ks_lif_ltN (tgt := 21) (by omega) (by decide) dX16_skip_2 rfl dX16_skip_3 (by decide) rfl (fun h1 => absurd h1 (by omega)) (fun h1 => ?_)
  refine ks_lload_n dX16_skip_6 rfl rfl ?_
  refine ks_aload_n dX16_skip_7 rfl rfl ?_
  refine ks_getf (T := TX16) (kf := 37) kx_2405 rfl in_X16 cl_X16 (by decide) hO rfl dX16_skip_8 rfl ?_
  refine ks_tv hl ?_
  refine ks_aload_n dX16_skip_11 rfl rfl ?_
  refine ks_getf (T := TX16) (kf := 36) kx_2404 rfl in_X16 cl_X16 (by decide) hO rfl dX16_skip_12 rfl ?_
  refine ks_tv ha ?_
  refine ks_subN (by omega) dX16_skip_15 rfl ?_
  refine ks_i2lN (by omega) dX16_skip_16 rfl ?_
  refine ks_lif_leN (tgt := 29) (by omega) (by omega) dX16_skip_17 rfl dX16_skip_18 (by decide) rfl (fun h2 => ?_) (fun h2 => absurd h2 (by omega))
  refine ks_aload_n dX16_skip_29 rfl rfl ?_
  refine ks_dup dX16_skip_30 rfl rfl ?_
  refine ks_getf (T := TX16) (kf := 36) kx_2404 rfl in_X16 cl_X16 (by decide) hO rfl dX16_skip_31 rfl ?_
  refine ks_tv ha ?_
  refine ks_lload_n dX16_skip_34 rfl rfl ?_
  refine ks_l2iN dX16_skip_35 rfl ?_
  refine ks_addN dX16_skip_36 rfl ?_
  refine ks_putf (T := TX16) (kf := 36) kx_2404 rfl in_X16 tyX16_ok nmX16 cl_X16 (by decide) hO (Nat.le_of_ble_eq_true rfl) rfl rfl rfl rfl dX16_skip_37 rfl ?_
  refine md_put mdp_36 ?_
  refine ks_ret rfl dX16_skip_40 ?_
  exact ⟨rfl, rfl⟩
set_option maxRecDepth 100000 in
set_option maxHeartbeats 800000 in
theorem c_md_skipX {l : Launch} {G : ks_G} {d : Nat} {S : ks_S} {V : Nat → Value} {p L : Nat} (hO : S.2.2 290 = some (rfE V)) (ha : V 36 = .int (nI p)) (hl : V 37 = .int (nI L)) (hp : p ≤ L) (hL : L < 2 ^ 20) {x : Int64} (hx : x < 0 ∨ lN (L - p) < x) : ks_P l G yX16_skip mX16_skip d [.ref 290, .long (x)] S (fun z S' => z = none ∧ S' = ks_set S 290 (rfE (va_up V 39 (.int (ks_bo true))))) := by
  refine ks_of (by decide) rfl rfl (Nat.le_of_ble_eq_true rfl) ?_
  show ks_X l G mX16_skip d 0 [(0, .ref 290), (1, .long x)] [] S _
  refine ks_lload_n dX16_skip_0 rfl rfl ?_
  refine ks_lconst (x := lN 0) dX16_skip_1 (by decide) rfl ?_
  refine ks_lif_lt (tgt := 21) dX16_skip_2 rfl dX16_skip_3 (by decide) rfl (fun h1 => ?_) (fun h1 => ?_)
  · refine ks_aload_n dX16_skip_21 rfl rfl ?_
    refine ks_iconst (x := nI 1) dX16_skip_22 (by decide) rfl ?_
    refine ks_putf (T := TX16) (kf := 39) kx_2407 rfl in_X16 tyX16_ok nmX16 cl_X16 (by decide) hO (Nat.le_of_ble_eq_true rfl) rfl rfl rfl rfl dX16_skip_23 rfl ?_
    refine md_put mdp_39 ?_
    refine ks_goto (tgt := 40) dX16_skip_26 (by decide) ?_
    refine ks_ret rfl dX16_skip_40 ?_
    exact ⟨rfl, rfl⟩
  · refine ks_lload_n dX16_skip_6 rfl rfl ?_
    refine ks_aload_n dX16_skip_7 rfl rfl ?_
    refine ks_getf (T := TX16) (kf := 37) kx_2405 rfl in_X16 cl_X16 (by decide) hO rfl dX16_skip_8 rfl ?_
    refine ks_tv hl ?_
    refine ks_aload_n dX16_skip_11 rfl rfl ?_
    refine ks_getf (T := TX16) (kf := 36) kx_2404 rfl in_X16 cl_X16 (by decide) hO rfl dX16_skip_12 rfl ?_
    refine ks_tv ha ?_
    refine ks_subN (by omega) dX16_skip_15 rfl ?_
    refine ks_i2lN (by omega) dX16_skip_16 rfl ?_
    refine ks_lif_le (tgt := 29) dX16_skip_17 rfl dX16_skip_18 (by decide) rfl (fun h2 => ?_) (fun h2 => ?_)
    · exact absurd (hx.resolve_left h1) (Int64.not_lt.mpr h2)
    · refine ks_aload_n dX16_skip_21 rfl rfl ?_
      refine ks_iconst (x := nI 1) dX16_skip_22 (by decide) rfl ?_
      refine ks_putf (T := TX16) (kf := 39) kx_2407 rfl in_X16 tyX16_ok nmX16 cl_X16 (by decide) hO (Nat.le_of_ble_eq_true rfl) rfl rfl rfl rfl dX16_skip_23 rfl ?_
      refine md_put mdp_39 ?_
      refine ks_goto (tgt := 40) dX16_skip_26 (by decide) ?_
      refine ks_ret rfl dX16_skip_40 ?_
      exact ⟨rfl, rfl⟩
