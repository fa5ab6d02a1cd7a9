/-! BUFFER -/
set_option maxRecDepth 100000 in
set_option maxHeartbeats 4000000 in
theorem c_Buffer_clear {l : Launch} {G : ks_G} {d : Nat} {S : ks_S} {b : Nat} {ra rn ro : Value} (hb : S.2.2 b = some (.inr (4, [ra, rn, ro]))) : ks_P l G yX1_clear mX1_clear d [.ref b] S (fun r S' => r = none ∧ S' = ks_set S b (.inr (4, [ra, .int 0, .int 0]))) := by
  refine ks_of (by decide) rfl rfl (Nat.le_of_ble_eq_true rfl) ?_
  show ks_X l G mX1_clear d 0 [(0, .ref b)] [] S _
  refine ks_aload_n dX1_clear_0 rfl rfl ?_
  refine ks_iconst (x := 0) dX1_clear_1 (by decide) rfl ?_
  refine ks_putf (T := TX1) (kf := 1) kx_60 rfl in_X1 tyX1_ok nmX1 cl_X1 (by decide) hb (Nat.le_of_ble_eq_true rfl) rfl rfl rfl rfl dX1_clear_2 rfl ?_
  refine ks_aload_n dX1_clear_5 rfl rfl ?_
  refine ks_iconst (x := 0) dX1_clear_6 (by decide) rfl ?_
  refine ks_putf (T := TX1) (kf := 2) kx_65 rfl in_X1 tyX1_ok nmX1 cl_X1 (by decide) (ks_set_same _ _ _) (Nat.le_of_ble_eq_true rfl) rfl rfl rfl rfl dX1_clear_7 rfl ?_
  refine ks_ret rfl dX1_clear_10 ?_
  exact ⟨rfl, ks_set_set _ _ _ _⟩
set_option maxRecDepth 100000 in
set_option maxHeartbeats 4000000 in
theorem c_Buffer_number {l : Launch} {G : ks_G} {d : Nat} {S : ks_S} {a N i sz : Nat} {f : Nat → Int32} (ha : S.2.2 a = some (.inl (0, N, .inl f))) (h1 : i + sz ≤ N) (hN : N < 2 ^ 31) (hs : sz ≤ 8) : ks_P l G yX1_number mX1_number d [.ref a, .int (nI i), .int (nI sz)] S (fun r S' => r = some (.long (lN (ks_num f i sz))) ∧ S' = S) := by
  have loop : ∀ k, k ≤ sz → ks_X l G mX1_number d 7 [(5, .int (nI k - 1)), (3, .long (lN (ks_num f (i + k) (sz - k)))), (0, .ref a), (1, .int (nI i)), (2, .int (nI sz))] [] S (fun r S' => r = some (.long (lN (ks_num f i sz))) ∧ S' = S) := by
    intro k
    induction k with
    | zero =>
      intro _
      refine ks_iload dX1_number_7 rfl rfl ?_
      refine ks_if_lt (tgt := 35) dX1_number_9 (by decide) rfl (fun hc => ?_) (fun hc => ?_)
      · refine ks_lload_n dX1_number_35 rfl rfl ?_
        refine ks_lret rfl dX1_number_36 ?_
        exact ⟨rfl, rfl⟩
      · exact absurd (by decide) hc
    | succ k ih =>
      intro hk
      rw [nI_pred]
      refine ks_iload dX1_number_7 rfl rfl ?_
      refine ks_if_lt (tgt := 35) dX1_number_9 (by decide) rfl (fun hc => ?_) (fun hc => ?_)
      · exact absurd hc (nI_pos (by omega))
      · refine ks_lload_n dX1_number_12 rfl rfl ?_
        refine ks_bipush (x := 8) dX1_number_13 (by decide) rfl ?_
        refine ks_lshl dX1_number_15 rfl ?_
        refine ks_aload_n dX1_number_16 rfl rfl ?_
        refine ks_iload_n dX1_number_17 rfl rfl ?_
        refine ks_iload dX1_number_18 rfl rfl ?_
        refine ks_iadd dX1_number_20 rfl ?_
        refine ks_bald ha (by rw [nI_add]; exact vp_in_nI (by omega) hN) dX1_number_21 rfl ?_
        refine ks_sipush (x := 255) dX1_number_22 (by decide) rfl ?_
        refine ks_iand dX1_number_25 rfl ?_
        refine ks_i2l dX1_number_26 rfl ?_
        refine ks_lor dX1_number_27 rfl ?_
        have e1 : (nI i + nI k).toNatClampNeg = i + k := by rw [nI_add, nI_clamp (by omega)]
        have e2 : sz - k = (sz - (k + 1)) + 1 := by omega
        have e3 := ks_num_lt f (sz - (k + 1)) (i + (k + 1))
        have e4 : 256 ^ (sz - (k + 1)) ≤ 256 ^ 7 := Nat.pow_le_pow_right (by decide) (by omega)
        refine ks_tl (y := lN (ks_num f (i + k) (sz - k))) (by rw [e1, e2, ks_by_and, nI_l (Nat.lt_trans (ks_by_lt _) (by decide)), ks_shl8_or (Nat.lt_of_lt_of_le e3 e4) (ks_by_lt _)]; rfl) ?_
        refine ks_lstore_n dX1_number_28 (by decide) rfl ?_
        refine ks_iinc (y := nI k - 1) dX1_number_29 rfl (ks_m1 _) (by decide) rfl ?_
        refine ks_goto (tgt := 7) dX1_number_32 (by decide) ?_
        exact ks_sub _ rfl (ih (by omega))
  refine ks_of (by decide) rfl rfl (Nat.le_of_ble_eq_true rfl) ?_
  show ks_X l G mX1_number d 0 [(0, .ref a), (1, .int (nI i)), (2, .int (nI sz))] [] S _
  refine ks_lconst (x := 0) dX1_number_0 (by decide) rfl ?_
  refine ks_lstore_n dX1_number_1 (by decide) rfl ?_
  refine ks_iload_n dX1_number_2 rfl rfl ?_
  refine ks_iconst (x := 1) dX1_number_3 (by decide) rfl ?_
  refine ks_isub dX1_number_4 rfl ?_
  refine ks_istore dX1_number_5 (by decide) rfl ?_
  refine ks_sub _ ?_ (loop sz (Nat.le_refl _))
  rw [Nat.sub_self]
  rfl
