/-! BUFFER -/
set_option maxRecDepth 100000 in
set_option maxHeartbeats 4000000 in
theorem c_Buffer_clear {l : Launch} {G : ks_G} {d : Nat} {S : ks_S} {b : Nat} {ra rn ro : Value} (hb : S.2.2 b = some (.inr (4, [ra, rn, ro]))) : ks_P l G yX1_clear mX1_clear d [.ref b] S (fun r S' => r = none ∧ S' = ks_set S b (.inr (4, [ra, .int 0, .int 0]))) := by
  refine ks_of (by decide) rfl rfl (Nat.le_of_ble_eq_true rfl) ?_
  show ks_X l G mX1_clear d 0 [(0, .ref b)] [] S _
  refine ks_aload_n dX1_clear_0 rfl rfl ?_
  refine ks_iconst (x := 0) dX1_clear_1 (by decide) rfl ?_
  refine ks_putf (T := TX1) (kf := 1) kx_60 rfl in_X1 tyX1_ok nmX1 cl_X1 (by decide) hb (Nat.le_of_ble_eq_true rfl) rfl rfl rfl rfl dX1_clear_2 rfl ?_
  refine ks_aload_n dX1_clear_5 rfl rfl ?_
  refine ks_iconst (x := 0) dX1_clear_6 (by decide) rfl ?_
  refine ks_putf (T := TX1) (kf := 2) kx_65 rfl in_X1 tyX1_ok nmX1 cl_X1 (by decide) (ks_set_same _ _ _) (Nat.le_of_ble_eq_true rfl) rfl rfl rfl rfl dX1_clear_7 rfl ?_
  refine ks_ret rfl dX1_clear_10 ?_
  exact ⟨rfl, ks_set_set _ _ _ _⟩
set_option maxRecDepth 100000 in
set_option maxHeartbeats 4000000 in
theorem c_Buffer_number {l : Launch} {G : ks_G} {d : Nat} {S : ks_S} {a N i sz : Nat} {g : Nat → Nat} (ha : S.2.2 a = some (kB N g)) (hg : kO g) (h1 : i + sz ≤ N) (hN : N < 2 ^ 31) (hs : sz ≤ 8) : ks_P l G yX1_number mX1_number d [.ref a, .int (nI i), .int (nI sz)] S (fun r S' => r = some (.long (lN (ks_num g i sz))) ∧ S' = S) := by
  have loop : ∀ k, k ≤ sz → ks_X l G mX1_number d 7 [(5, .int (nI k - 1)), (3, .long (lN (ks_num g (i + k) (sz - k)))), (0, .ref a), (1, .int (nI i)), (2, .int (nI sz))] [] S (fun r S' => r = some (.long (lN (ks_num g i sz))) ∧ S' = S) := by
    intro k
    induction k with
    | zero =>
      intro _
      refine ks_iload dX1_number_7 rfl rfl ?_
      refine ks_if_lt (tgt := 35) dX1_number_9 (by decide) rfl (fun hc => ?_) (fun hc => ?_)
      · refine ks_lload_n dX1_number_35 rfl rfl ?_
        refine ks_lret rfl dX1_number_36 ?_
        exact ⟨rfl, rfl⟩
      · exact absurd (by decide) hc
    | succ k ih =>
      intro hk
      rw [nI_pred]
      refine ks_iload dX1_number_7 rfl rfl ?_
      refine ks_if_lt (tgt := 35) dX1_number_9 (by decide) rfl (fun hc => ?_) (fun hc => ?_)
      · exact absurd hc (nI_pos (by omega))
      · refine ks_lload_n dX1_number_12 rfl rfl ?_
        refine ks_bipush (x := 8) dX1_number_13 (by decide) rfl ?_
        refine ks_lshl dX1_number_15 rfl ?_
        refine ks_aload_n dX1_number_16 rfl rfl ?_
        refine ks_iload_n dX1_number_17 rfl rfl ?_
        refine ks_iload dX1_number_18 rfl rfl ?_
        refine ks_iadd dX1_number_20 rfl ?_
        refine ks_baldB ha (nI_add i k) (by omega) hN dX1_number_21 rfl ?_
        refine ks_sipush (x := 255) dX1_number_22 (by decide) rfl ?_
        refine ks_iand dX1_number_25 rfl ?_
        refine ks_i2l dX1_number_26 rfl ?_
        refine ks_lor dX1_number_27 rfl ?_
        have e2 : sz - k = (sz - (k + 1)) + 1 := by omega
        have e3 := ks_num_lt hg (sz - (k + 1)) (i + (k + 1))
        have e4 : 256 ^ (sz - (k + 1)) ≤ 256 ^ 7 := Nat.pow_le_pow_right (by decide) (by omega)
        refine ks_tl (y := lN (ks_num g (i + k) (sz - k))) (by rw [e2, kb_and (hg _), nI_l (Nat.lt_trans (hg _) (by decide)), ks_shl8_or (Nat.lt_of_lt_of_le e3 e4) (hg _)]; rfl) ?_
        refine ks_lstore_n dX1_number_28 (by decide) rfl ?_
        refine ks_iinc (y := nI k - 1) dX1_number_29 rfl (ks_m1 _) (by decide) rfl ?_
        refine ks_goto (tgt := 7) dX1_number_32 (by decide) ?_
        exact ks_sub _ rfl (ih (by omega))
  refine ks_of (by decide) rfl rfl (Nat.le_of_ble_eq_true rfl) ?_
  show ks_X l G mX1_number d 0 [(0, .ref a), (1, .int (nI i)), (2, .int (nI sz))] [] S _
  refine ks_lconst (x := 0) dX1_number_0 (by decide) rfl ?_
  refine ks_lstore_n dX1_number_1 (by decide) rfl ?_
  refine ks_iload_n dX1_number_2 rfl rfl ?_
  refine ks_iconst (x := 1) dX1_number_3 (by decide) rfl ?_
  refine ks_isub dX1_number_4 rfl ?_
  refine ks_istore dX1_number_5 (by decide) rfl ?_
  refine ks_sub _ ?_ (loop sz (Nat.le_refl _))
  rw [Nat.sub_self]
  rfl
set_option maxRecDepth 100000 in
set_option maxHeartbeats 4000000 in
theorem c_Buffer_addNumber {l : Launch} {G : ks_G} {d : Nat} {S : ks_S} {a b N len sz : Nat} {g : Nat → Nat} {ro : Int32} {v : Int64} (hb : S.2.2 b = some (.inr (4, [.ref a, .int (nI len), .int ro]))) (ha : S.2.2 a = some (kB N g)) (hl : len ≤ N) (hN : N < 2 ^ 31) (hs : sz ≤ 8) : ks_P l G yX1_addNumber mX1_addNumber d [.ref b, .long v, .int (nI sz)] S (fun r S' => r = none ∧ S' = if len + sz ≤ N then ks_set (ks_set S a (kB N (ks_lay g len sz v))) b (.inr (4, [.ref a, .int (nI (len + sz)), .int ro])) else ks_set S b (.inr (4, [.ref a, .int (nI len), .int 1]))) := by
  have n_b_a : b ≠ a := ks_ne hb ha (by intro h; cases h)
  have n_a_b : a ≠ b := Ne.symm n_b_a
  have loop : len + sz ≤ N → ∀ k i, i + k = sz → ks_X l G mX1_addNumber d 23 [(4, .int (nI i)), (0, .ref b), (1, .long v), (3, .int (nI sz))] [] (ks_set S a (kB N (ks_lay g len i v))) (fun r S' => r = none ∧ S' = if len + sz ≤ N then ks_set (ks_set S a (kB N (ks_lay g len sz v))) b (.inr (4, [.ref a, .int (nI (len + sz)), .int ro])) else ks_set S b (.inr (4, [.ref a, .int (nI len), .int 1]))) := by
    intro hfit k
    induction k with
    | zero =>
      intro i hi
      refine ks_iload dX1_addNumber_23 rfl rfl ?_
      refine ks_iload_n dX1_addNumber_25 rfl rfl ?_
      refine ks_icmp_ge (tgt := 56) dX1_addNumber_26 (by decide) rfl (fun hc => ?_) (fun hc => ?_)
      · refine ks_aload_n dX1_addNumber_56 rfl rfl ?_
        refine ks_dup dX1_addNumber_57 rfl rfl ?_
        refine ks_getf (T := TX1) (kf := 1) kx_60 rfl in_X1 cl_X1 (by decide) ((ks_set_ne _ _ n_b_a).trans hb) rfl dX1_addNumber_58 rfl ?_
        refine ks_iload_n dX1_addNumber_61 rfl rfl ?_
        refine ks_iadd dX1_addNumber_62 rfl ?_
        refine ks_ti (nI_add len sz) ?_
        refine ks_putf (T := TX1) (kf := 1) kx_60 rfl in_X1 tyX1_ok nmX1 cl_X1 (by decide) ((ks_set_ne _ _ n_b_a).trans hb) (Nat.le_of_ble_eq_true rfl) rfl rfl rfl rfl dX1_addNumber_63 rfl ?_
        refine ks_ret rfl dX1_addNumber_66 ?_
        refine ⟨rfl, ?_⟩
        rw [if_pos hfit, show i = sz by omega]
        rfl
      · exact absurd (nI_le (by omega) (by omega)) hc
    | succ k ih =>
      intro i hi
      refine ks_iload dX1_addNumber_23 rfl rfl ?_
      refine ks_iload_n dX1_addNumber_25 rfl rfl ?_
      refine ks_icmp_ge (tgt := 56) dX1_addNumber_26 (by decide) rfl (fun hc => ?_) (fun hc => ?_)
      · exact absurd hc (nI_ge (by omega) (by omega))
      · refine ks_aload_n dX1_addNumber_29 rfl rfl ?_
        refine ks_getf (T := TX1) (kf := 0) kx_51 rfl in_X1 cl_X1 (by decide) ((ks_set_ne _ _ n_b_a).trans hb) rfl dX1_addNumber_30 rfl ?_
        refine ks_aload_n dX1_addNumber_33 rfl rfl ?_
        refine ks_getf (T := TX1) (kf := 1) kx_60 rfl in_X1 cl_X1 (by decide) ((ks_set_ne _ _ n_b_a).trans hb) rfl dX1_addNumber_34 rfl ?_
        refine ks_iload dX1_addNumber_37 rfl rfl ?_
        refine ks_iadd dX1_addNumber_39 rfl ?_
        refine ks_lload_n dX1_addNumber_40 rfl rfl ?_
        refine ks_bipush (x := 8) dX1_addNumber_41 (by decide) rfl ?_
        refine ks_iload dX1_addNumber_43 rfl rfl ?_
        refine ks_imul dX1_addNumber_45 rfl ?_
        refine ks_lushr dX1_addNumber_46 rfl ?_
        refine ks_l2i dX1_addNumber_47 rfl ?_
        refine ks_i2b dX1_addNumber_48 rfl ?_
        refine ks_bastB (ks_set_same _ _ _) (nI_add len i) (by omega) hN (by rw [ks_by_i8, ks_by_shr v (by omega)]) dX1_addNumber_49 rfl ?_
        refine ks_iinc (y := nI (i + 1)) dX1_addNumber_50 rfl (ks_p1 i) (by decide) rfl ?_
        refine ks_goto (tgt := 23) dX1_addNumber_53 (by decide) ?_
        refine ks_tS (by rw [ks_set_set, ks_lay_s]) ?_
        exact ks_sub _ rfl (ih (i + 1) (by omega))
  refine ks_of (by decide) rfl rfl (Nat.le_of_ble_eq_true rfl) ?_
  show ks_X l G mX1_addNumber d 0 [(0, .ref b), (1, .long v), (3, .int (nI sz))] [] S _
  refine ks_iload_n dX1_addNumber_0 rfl rfl ?_
  refine ks_aload_n dX1_addNumber_1 rfl rfl ?_
  refine ks_getf (T := TX1) (kf := 0) kx_51 rfl in_X1 cl_X1 (by decide) hb rfl dX1_addNumber_2 rfl ?_
  refine ks_alenT (by decide) (by decide) ha rfl dX1_addNumber_5 rfl ?_
  refine ks_aload_n dX1_addNumber_6 rfl rfl ?_
  refine ks_getf (T := TX1) (kf := 1) kx_60 rfl in_X1 cl_X1 (by decide) hb rfl dX1_addNumber_7 rfl ?_
  refine ks_isub dX1_addNumber_10 rfl ?_
  refine ks_icmp_le (tgt := 20) dX1_addNumber_11 (by decide) rfl (fun hc => ?_) (fun hc => ?_)
  · rw [pk_sub hl, nI_leI (by omega) (by omega)] at hc
    refine ks_iconst (x := 0) dX1_addNumber_20 (by decide) rfl ?_
    refine ks_istore dX1_addNumber_21 (by decide) rfl ?_
    have h9 := loop (by omega) sz 0 (by omega)
    rw [ks_lay_0, ks_set_id S ha] at h9
    exact ks_sub _ rfl h9
  · rw [pk_sub hl, nI_leI (by omega) (by omega)] at hc
    refine ks_aload_n dX1_addNumber_14 rfl rfl ?_
    refine ks_iconst (x := 1) dX1_addNumber_15 (by decide) rfl ?_
    refine ks_putf (T := TX1) (kf := 2) kx_65 rfl in_X1 tyX1_ok nmX1 cl_X1 (by decide) hb (Nat.le_of_ble_eq_true rfl) rfl rfl rfl rfl dX1_addNumber_16 rfl ?_
    refine ks_ret rfl dX1_addNumber_19 ?_
    refine ⟨rfl, ?_⟩
    rw [if_neg (by omega)]
    rfl
