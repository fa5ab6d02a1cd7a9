theorem kx_275 : (Jvm.Cond.native ({ cls := "java/lang/System", name := "arraycopy", desc := "(Ljava/lang/Object;ILjava/lang/Object;II)V" } : Jvm.MethodName)) ∈ lw_tbl := List.mem_append_right _ (List.mem_of_getElem? (i := 275) (by decide +kernel))
/-! BUFFER, the rest -/
/-- an int with its bytes the other way round, as a long -/
def ks_rev (x : Int32) : Int64 := (((x.toUInt32 >>> ((24 : Int32).toUInt32 &&& Int32.toUInt32 31)).toInt32 &&& 255) ||| ((x.toUInt32 >>> ((8 : Int32).toUInt32 &&& Int32.toUInt32 31)).toInt32 &&& 65280) ||| ((x <<< ((8 : Int32) &&& 31)) &&& 16711680) ||| (x <<< ((24 : Int32) &&& 31))).toInt64
set_option maxRecDepth 100000 in
set_option maxHeartbeats 4000000 in
theorem c_Buffer_addHighFirst {l : Launch} {G : ks_G} {d : Nat} {S : ks_S} {a b N len : Nat} {g : Nat → Nat} {ro x : Int32} (hb : S.2.2 b = some (.inr (4, [.ref a, .int (nI len), .int ro]))) (ha : S.2.2 a = some (kB N g)) (hl : len ≤ N) (hN : N < 2 ^ 31) : ks_P l G yX1_addHighFirst mX1_addHighFirst (d + 1) [.ref b, .int x] S (fun r S' => r = none ∧ S' = if len + 4 ≤ N then ks_set (ks_set S a (kB N (ks_lay g len 4 (ks_rev x)))) b (.inr (4, [.ref a, .int (nI (len + 4)), .int ro])) else ks_set S b (.inr (4, [.ref a, .int (nI len), .int 1]))) := by
  refine ks_of (by decide) rfl rfl (Nat.le_of_ble_eq_true rfl) ?_
  show ks_X l G mX1_addHighFirst (d + 1) 0 [(0, .ref b), (1, .int x)] [] S _
  refine ks_aload_n dX1_addHighFirst_0 rfl rfl ?_
  refine ks_iload_n dX1_addHighFirst_1 rfl rfl ?_
  refine ks_bipush (x := 24) dX1_addHighFirst_2 (by decide) rfl ?_
  refine ks_iushr dX1_addHighFirst_4 rfl ?_
  refine ks_sipush (x := 255) dX1_addHighFirst_5 (by decide) rfl ?_
  refine ks_iand dX1_addHighFirst_8 rfl ?_
  refine ks_iload_n dX1_addHighFirst_9 rfl rfl ?_
  refine ks_bipush (x := 8) dX1_addHighFirst_10 (by decide) rfl ?_
  refine ks_iushr dX1_addHighFirst_12 rfl ?_
  refine ks_ldc dX1_addHighFirst_13 kx_1148 rfl ?_
  refine ks_iand dX1_addHighFirst_15 rfl ?_
  refine ks_ior dX1_addHighFirst_16 rfl ?_
  refine ks_iload_n dX1_addHighFirst_17 rfl rfl ?_
  refine ks_bipush (x := 8) dX1_addHighFirst_18 (by decide) rfl ?_
  refine ks_ishl dX1_addHighFirst_20 rfl ?_
  refine ks_ldc dX1_addHighFirst_21 kx_1149 rfl ?_
  refine ks_iand dX1_addHighFirst_23 rfl ?_
  refine ks_ior dX1_addHighFirst_24 rfl ?_
  refine ks_iload_n dX1_addHighFirst_25 rfl rfl ?_
  refine ks_bipush (x := 24) dX1_addHighFirst_26 (by decide) rfl ?_
  refine ks_ishl dX1_addHighFirst_28 rfl ?_
  refine ks_ior dX1_addHighFirst_29 rfl ?_
  refine ks_i2l dX1_addHighFirst_30 rfl ?_
  refine ks_iconst (x := 4) dX1_addHighFirst_31 (by decide) rfl ?_
  refine ks_callV (n := 2) (M' := mX1_addNumber) (c_Buffer_addNumber (sz := 4) hb ha hl hN (by decide)) hb cl_X1 rfl kx_1150 kx_829 kx_830 kx_2 kx_831 (by decide +kernel) rfl (by decide) (by decide) rfl dX1_addHighFirst_32 rfl (fun r1 S1 h1 => ?_)
  obtain ⟨rfl, rfl⟩ := h1
  refine ks_ret rfl dX1_addHighFirst_35 ?_
  exact ⟨rfl, rfl⟩
set_option maxRecDepth 100000 in
set_option maxHeartbeats 4000000 in
theorem c_Buffer_addBytes {l : Launch} {G : ks_G} {d : Nat} {S : ks_S} {a b a0 N0 i n N len : Nat} {f g : Nat → Nat} {ro : Int32} (h0 : S.2.2 a0 = some (kB N0 f)) (hi : i + n ≤ N0) (hN0 : N0 < 2 ^ 31) (hb : S.2.2 b = some (.inr (4, [.ref a, .int (nI len), .int ro]))) (ha : S.2.2 a = some (kB N g)) (hl : len ≤ N) (hN : N < 2 ^ 31) : ks_P l G yX1_addBytes mX1_addBytes (d + 1) [.ref b, .ref a0, .int (nI i), .int (nI n)] S (fun r S' => r = none ∧ S' = if len + n ≤ N then ks_set (ks_set S a (kB N (va_cpy f g i len n))) b (.inr (4, [.ref a, .int (nI (len + n)), .int ro])) else ks_set S b (.inr (4, [.ref a, .int (nI len), .int 1]))) := by
  have n_b_a : b ≠ a := ks_ne hb ha (by intro h; cases h)
  have n_a_b : a ≠ b := Ne.symm n_b_a
  refine ks_of (by decide) rfl rfl (Nat.le_of_ble_eq_true rfl) ?_
  show ks_X l G mX1_addBytes (d + 1) 0 [(0, .ref b), (1, .ref a0), (2, .int (nI i)), (3, .int (nI n))] [] S _
  refine ks_iload_n dX1_addBytes_0 rfl rfl ?_
  refine ks_aload_n dX1_addBytes_1 rfl rfl ?_
  refine ks_getf (T := TX1) (kf := 0) kx_51 rfl in_X1 cl_X1 (by decide) hb rfl dX1_addBytes_2 rfl ?_
  refine ks_alenT (by decide) (by decide) ha rfl dX1_addBytes_5 rfl ?_
  refine ks_aload_n dX1_addBytes_6 rfl rfl ?_
  refine ks_getf (T := TX1) (kf := 1) kx_60 rfl in_X1 cl_X1 (by decide) hb rfl dX1_addBytes_7 rfl ?_
  refine ks_isub dX1_addBytes_10 rfl ?_
  refine ks_icmp_le (tgt := 20) dX1_addBytes_11 (by decide) rfl (fun hc => ?_) (fun hc => ?_)
  · rw [pk_sub hl, nI_leI (by omega) (by omega)] at hc
    refine ks_aload_n dX1_addBytes_20 rfl rfl ?_
    refine ks_iload_n dX1_addBytes_21 rfl rfl ?_
    refine ks_aload_n dX1_addBytes_22 rfl rfl ?_
    refine ks_getf (T := TX1) (kf := 0) kx_51 rfl in_X1 cl_X1 (by decide) hb rfl dX1_addBytes_23 rfl ?_
    refine ks_aload_n dX1_addBytes_26 rfl rfl ?_
    refine ks_getf (T := TX1) (kf := 1) kx_60 rfl in_X1 cl_X1 (by decide) hb rfl dX1_addBytes_27 rfl ?_
    refine ks_iload_n dX1_addBytes_30 rfl rfl ?_
    refine ks_copyB h0 ha rfl rfl rfl hi (by omega) hN0 hN kx_875 kx_275 kx_274 kx_17 (by omega) (by decide) dX1_addBytes_31 rfl ?_
    refine ks_aload_n dX1_addBytes_34 rfl rfl ?_
    refine ks_dup dX1_addBytes_35 rfl rfl ?_
    refine ks_getf (T := TX1) (kf := 1) kx_60 rfl in_X1 cl_X1 (by decide) ((ks_set_ne _ _ n_b_a).trans hb) rfl dX1_addBytes_36 rfl ?_
    refine ks_iload_n dX1_addBytes_39 rfl rfl ?_
    refine ks_iadd dX1_addBytes_40 rfl ?_
    refine ks_ti (nI_add len n) ?_
    refine ks_putf (T := TX1) (kf := 1) kx_60 rfl in_X1 tyX1_ok nmX1 cl_X1 (by decide) ((ks_set_ne _ _ n_b_a).trans hb) (Nat.le_of_ble_eq_true rfl) rfl rfl rfl rfl dX1_addBytes_41 rfl ?_
    refine ks_ret rfl dX1_addBytes_44 ?_
    refine ⟨rfl, ?_⟩
    rw [if_pos (by omega)]
    rfl
  · rw [pk_sub hl, nI_leI (by omega) (by omega)] at hc
    refine ks_aload_n dX1_addBytes_14 rfl rfl ?_
    refine ks_iconst (x := 1) dX1_addBytes_15 (by decide) rfl ?_
    refine ks_putf (T := TX1) (kf := 2) kx_65 rfl in_X1 tyX1_ok nmX1 cl_X1 (by decide) hb (Nat.le_of_ble_eq_true rfl) rfl rfl rfl rfl dX1_addBytes_16 rfl ?_
    refine ks_ret rfl dX1_addBytes_19 ?_
    refine ⟨rfl, ?_⟩
    rw [if_neg (by omega)]
    rfl
/-- a COUNT laid at i -/
def ks_cnt (g : Nat → Nat) (i n : Nat) : Nat → Nat := if n < 253 then va_up g i (n % 256) else va_up (va_up (va_up g i 253) (i + 1) (n % 256)) (i + 2) (n / 256 % 256)
theorem kO_cnt {g : Nat → Nat} (h : kO g) (i n : Nat) : kO (ks_cnt g i n) := by
  unfold ks_cnt
  by_cases e : n < 253
  · rw [if_pos e]
    exact kO_up h (Nat.mod_lt _ (by decide))
  · rw [if_neg e]
    exact kO_up (kO_up (kO_up h (by decide)) (Nat.mod_lt _ (by decide))) (Nat.mod_lt _ (by decide))
set_option maxRecDepth 100000 in
set_option maxHeartbeats 4000000 in
theorem c_Buffer_addCount {l : Launch} {G : ks_G} {d : Nat} {S : ks_S} {a b N len n : Nat} {g : Nat → Nat} {ro : Int32} (hn : n < 65536) (hb : S.2.2 b = some (.inr (4, [.ref a, .int (nI len), .int ro]))) (ha : S.2.2 a = some (kB N g)) (hl : len ≤ N) (hN : N < 2 ^ 31) : ks_P l G yX1_addCount mX1_addCount d [.ref b, .int (nI n)] S (fun r S' => r = none ∧ S' = if len + (if n < 253 then 1 else 3) ≤ N then ks_set (ks_set S a (kB N (ks_cnt g len n))) b (.inr (4, [.ref a, .int (nI (len + (if n < 253 then 1 else 3))), .int ro])) else ks_set S b (.inr (4, [.ref a, .int (nI len), .int 1]))) := by
  have n_b_a : b ≠ a := ks_ne hb ha (by intro h; cases h)
  have n_a_b : a ≠ b := Ne.symm n_b_a
  refine ks_of (by decide) rfl rfl (Nat.le_of_ble_eq_true rfl) ?_
  show ks_X l G mX1_addCount d 0 [(0, .ref b), (1, .int (nI n))] [] S _
  refine ks_iload_n dX1_addCount_0 rfl rfl ?_
  refine ks_sipush (x := 253) dX1_addCount_1 (by decide) rfl ?_
  refine ks_icmp_ge (tgt := 11) dX1_addCount_4 (by decide) rfl (fun hc => ?_) (fun hc => ?_)
  · have h253 : ¬ n < 253 := by
      intro h
      exact absurd hc (nI_ge (a := n) (b := 253) h (by decide))
    refine ks_iconst (x := 3) dX1_addCount_11 (by decide) rfl ?_
    refine ks_istore_n dX1_addCount_12 (by decide) rfl ?_
    refine ks_iload_n dX1_addCount_13 rfl rfl ?_
    refine ks_aload_n dX1_addCount_14 rfl rfl ?_
    refine ks_getf (T := TX1) (kf := 0) kx_51 rfl in_X1 cl_X1 (by decide) hb rfl dX1_addCount_15 rfl ?_
    refine ks_alenT (by decide) (by decide) ha rfl dX1_addCount_18 rfl ?_
    refine ks_aload_n dX1_addCount_19 rfl rfl ?_
    refine ks_getf (T := TX1) (kf := 1) kx_60 rfl in_X1 cl_X1 (by decide) hb rfl dX1_addCount_20 rfl ?_
    refine ks_isub dX1_addCount_23 rfl ?_
    refine ks_icmp_le (tgt := 33) dX1_addCount_24 (by decide) rfl (fun hc2 => ?_) (fun hc2 => ?_)
    · have h2 : 3 ≤ N - len := by
        rw [pk_sub hl] at hc2
        exact (nI_leI (a := 3) (by decide) (by omega)).mp hc2
      refine ks_iload_n dX1_addCount_33 rfl rfl ?_
      refine ks_iconst (x := 1) dX1_addCount_34 (by decide) rfl ?_
      refine ks_icmp_ne (tgt := 52) dX1_addCount_35 (by decide) rfl (fun hc3 => ?_) (fun hc3 => ?_)
      · refine ks_aload_n dX1_addCount_52 rfl rfl ?_
        refine ks_getf (T := TX1) (kf := 0) kx_51 rfl in_X1 cl_X1 (by decide) hb rfl dX1_addCount_53 rfl ?_
        refine ks_aload_n dX1_addCount_56 rfl rfl ?_
        refine ks_getf (T := TX1) (kf := 1) kx_60 rfl in_X1 cl_X1 (by decide) hb rfl dX1_addCount_57 rfl ?_
        refine ks_bipush (x := (-3)) dX1_addCount_60 (by decide) rfl ?_
        refine ks_bastB ha rfl (by omega) hN (show ks_by (-3) = 253 by decide) dX1_addCount_62 rfl ?_
        refine ks_aload_n dX1_addCount_63 rfl rfl ?_
        refine ks_getf (T := TX1) (kf := 0) kx_51 rfl in_X1 cl_X1 (by decide) ((ks_set_ne _ _ n_b_a).trans hb) rfl dX1_addCount_64 rfl ?_
        refine ks_aload_n dX1_addCount_67 rfl rfl ?_
        refine ks_getf (T := TX1) (kf := 1) kx_60 rfl in_X1 cl_X1 (by decide) ((ks_set_ne _ _ n_b_a).trans hb) rfl dX1_addCount_68 rfl ?_
        refine ks_iconst (x := 1) dX1_addCount_71 (by decide) rfl ?_
        refine ks_iadd dX1_addCount_72 rfl ?_
        refine ks_iload_n dX1_addCount_73 rfl rfl ?_
        refine ks_i2b dX1_addCount_74 rfl ?_
        refine ks_bastB (ks_set_same _ _ _) (nI_add len 1) (by omega) hN (by rw [ks_by_i8, ks_by_nI]) dX1_addCount_75 rfl ?_
        refine ks_aload_n dX1_addCount_76 rfl rfl ?_
        refine ks_getf (T := TX1) (kf := 0) kx_51 rfl in_X1 cl_X1 (by decide) ((ks_set_ne _ _ n_b_a).trans ((ks_set_ne _ _ n_b_a).trans hb)) rfl dX1_addCount_77 rfl ?_
        refine ks_aload_n dX1_addCount_80 rfl rfl ?_
        refine ks_getf (T := TX1) (kf := 1) kx_60 rfl in_X1 cl_X1 (by decide) ((ks_set_ne _ _ n_b_a).trans ((ks_set_ne _ _ n_b_a).trans hb)) rfl dX1_addCount_81 rfl ?_
        refine ks_iconst (x := 2) dX1_addCount_84 (by decide) rfl ?_
        refine ks_iadd dX1_addCount_85 rfl ?_
        refine ks_iload_n dX1_addCount_86 rfl rfl ?_
        refine ks_bipush (x := 8) dX1_addCount_87 (by decide) rfl ?_
        refine ks_iushr dX1_addCount_89 rfl ?_
        refine ks_i2b dX1_addCount_90 rfl ?_
        refine ks_bastB (ks_set_same _ _ _) (nI_add len 2) (by omega) hN (by rw [ks_by_i8, pk_ushrN (by omega) 8 8 (by decide), ks_by_nI]) dX1_addCount_91 rfl ?_
        refine ks_aload_n dX1_addCount_92 rfl rfl ?_
        refine ks_dup dX1_addCount_93 rfl rfl ?_
        refine ks_getf (T := TX1) (kf := 1) kx_60 rfl in_X1 cl_X1 (by decide) ((ks_set_ne _ _ n_b_a).trans ((ks_set_ne _ _ n_b_a).trans ((ks_set_ne _ _ n_b_a).trans hb))) rfl dX1_addCount_94 rfl ?_
        refine ks_iload_n dX1_addCount_97 rfl rfl ?_
        refine ks_iadd dX1_addCount_98 rfl ?_
        refine ks_ti (nI_add len 3) ?_
        refine ks_putf (T := TX1) (kf := 1) kx_60 rfl in_X1 tyX1_ok nmX1 cl_X1 (by decide) ((ks_set_ne _ _ n_b_a).trans ((ks_set_ne _ _ n_b_a).trans ((ks_set_ne _ _ n_b_a).trans hb))) (Nat.le_of_ble_eq_true rfl) rfl rfl rfl rfl dX1_addCount_99 rfl ?_
        refine ks_ret rfl dX1_addCount_102 ?_
        refine ⟨rfl, ?_⟩
        rw [if_neg h253, if_pos (by omega)]
        unfold ks_cnt
        rw [if_neg h253, ks_set_set, ks_set_set]
        rfl
      · exact absurd hc3 (by decide)
    · have h2 : ¬ 3 ≤ N - len := by
        rw [pk_sub hl] at hc2
        exact fun h => hc2 ((nI_leI (a := 3) (by decide) (by omega)).mpr h)
      refine ks_aload_n dX1_addCount_27 rfl rfl ?_
      refine ks_iconst (x := 1) dX1_addCount_28 (by decide) rfl ?_
      refine ks_putf (T := TX1) (kf := 2) kx_65 rfl in_X1 tyX1_ok nmX1 cl_X1 (by decide) hb (Nat.le_of_ble_eq_true rfl) rfl rfl rfl rfl dX1_addCount_29 rfl ?_
      refine ks_ret rfl dX1_addCount_32 ?_
      refine ⟨rfl, ?_⟩
      rw [if_neg h253, if_neg (by omega)]
      rfl
  · have h253 : n < 253 := by
      rcases Nat.lt_or_ge n 253 with h | h
      · exact h
      · exact absurd (nI_le (a := 253) h (by omega)) hc
    refine ks_iconst (x := 1) dX1_addCount_7 (by decide) rfl ?_
    refine ks_goto (tgt := 12) dX1_addCount_8 (by decide) ?_
    refine ks_istore_n dX1_addCount_12 (by decide) rfl ?_
    refine ks_iload_n dX1_addCount_13 rfl rfl ?_
    refine ks_aload_n dX1_addCount_14 rfl rfl ?_
    refine ks_getf (T := TX1) (kf := 0) kx_51 rfl in_X1 cl_X1 (by decide) hb rfl dX1_addCount_15 rfl ?_
    refine ks_alenT (by decide) (by decide) ha rfl dX1_addCount_18 rfl ?_
    refine ks_aload_n dX1_addCount_19 rfl rfl ?_
    refine ks_getf (T := TX1) (kf := 1) kx_60 rfl in_X1 cl_X1 (by decide) hb rfl dX1_addCount_20 rfl ?_
    refine ks_isub dX1_addCount_23 rfl ?_
    refine ks_icmp_le (tgt := 33) dX1_addCount_24 (by decide) rfl (fun hc2 => ?_) (fun hc2 => ?_)
    · have h2 : 1 ≤ N - len := by
        rw [pk_sub hl] at hc2
        exact (nI_leI (a := 1) (by decide) (by omega)).mp hc2
      refine ks_iload_n dX1_addCount_33 rfl rfl ?_
      refine ks_iconst (x := 1) dX1_addCount_34 (by decide) rfl ?_
      refine ks_icmp_ne (tgt := 52) dX1_addCount_35 (by decide) rfl (fun hc3 => ?_) (fun hc3 => ?_)
      · exact absurd rfl hc3
      · refine ks_aload_n dX1_addCount_38 rfl rfl ?_
        refine ks_getf (T := TX1) (kf := 0) kx_51 rfl in_X1 cl_X1 (by decide) hb rfl dX1_addCount_39 rfl ?_
        refine ks_aload_n dX1_addCount_42 rfl rfl ?_
        refine ks_getf (T := TX1) (kf := 1) kx_60 rfl in_X1 cl_X1 (by decide) hb rfl dX1_addCount_43 rfl ?_
        refine ks_iload_n dX1_addCount_46 rfl rfl ?_
        refine ks_i2b dX1_addCount_47 rfl ?_
        refine ks_bastB ha rfl (by omega) hN (by rw [ks_by_i8, ks_by_nI]) dX1_addCount_48 rfl ?_
        refine ks_goto (tgt := 92) dX1_addCount_49 (by decide) ?_
        refine ks_aload_n dX1_addCount_92 rfl rfl ?_
        refine ks_dup dX1_addCount_93 rfl rfl ?_
        refine ks_getf (T := TX1) (kf := 1) kx_60 rfl in_X1 cl_X1 (by decide) ((ks_set_ne _ _ n_b_a).trans hb) rfl dX1_addCount_94 rfl ?_
        refine ks_iload_n dX1_addCount_97 rfl rfl ?_
        refine ks_iadd dX1_addCount_98 rfl ?_
        refine ks_ti (nI_add len 1) ?_
        refine ks_putf (T := TX1) (kf := 1) kx_60 rfl in_X1 tyX1_ok nmX1 cl_X1 (by decide) ((ks_set_ne _ _ n_b_a).trans hb) (Nat.le_of_ble_eq_true rfl) rfl rfl rfl rfl dX1_addCount_99 rfl ?_
        refine ks_ret rfl dX1_addCount_102 ?_
        refine ⟨rfl, ?_⟩
        rw [if_pos h253, if_pos (by omega)]
        unfold ks_cnt
        rw [if_pos h253]
        rfl
    · have h2 : ¬ 1 ≤ N - len := by
        rw [pk_sub hl] at hc2
        exact fun h => hc2 ((nI_leI (a := 1) (by decide) (by omega)).mpr h)
      refine ks_aload_n dX1_addCount_27 rfl rfl ?_
      refine ks_iconst (x := 1) dX1_addCount_28 (by decide) rfl ?_
      refine ks_putf (T := TX1) (kf := 2) kx_65 rfl in_X1 tyX1_ok nmX1 cl_X1 (by decide) hb (Nat.le_of_ble_eq_true rfl) rfl rfl rfl rfl dX1_addCount_29 rfl ?_
      refine ks_ret rfl dX1_addCount_32 ?_
      refine ⟨rfl, ?_⟩
      rw [if_pos h253, if_neg (by omega)]
      rfl
section KsNew
variable {l : Launch} {G : ks_G} {M : ks_M} {d pc pc' : Nat} {lv : List (Nat × Value)} {st : List Value} {S : ks_S} {P : Option Value → ks_S → Prop} {N : Nat}
theorem ks_newB (hw : Cond.arrayClass .byte ∈ lw_tbl) (hN : N < 1000000) (hB : S.1 < ks_B) (hd : decode M.2.1 pc = .ok (.newarray .byte, 2)) (hp : pc + 2 = pc') (k : ks_X l G M d pc' lv (.ref S.1 :: st) (ks_add S N (kB N (fun _ => 0))) P) : ks_X l G M d pc lv (.int (nI N) :: st) S P :=
  ks_newa (t := 0) (ty := .byte) (at9 := .byte) (A0 := (N, .inl (fun _ => 0))) rfl rfl (fun _ h => h) hw (fun _ => rfl) (nI_pos (by omega)) (nI_clamp (by omega)) (by show N * 1 ≤ _; omega) hB hd hp (by rw [kb_0]; exact k)
theorem ks_newZ (hw : Cond.arrayClass .boolean ∈ lw_tbl) (hN : N < 1000000) (hB : S.1 < ks_B) (hd : decode M.2.1 pc = .ok (.newarray .boolean, 2)) (hp : pc + 2 = pc') (k : ks_X l G M d pc' lv (.ref S.1 :: st) (ks_add S N (.inl (3, N, .inl (fun _ => 0)))) P) : ks_X l G M d pc lv (.int (nI N) :: st) S P :=
  ks_newa (t := 3) (ty := .boolean) (at9 := .boolean) (A0 := (N, .inl (fun _ => 0))) rfl rfl (fun _ h => h) hw (fun _ => rfl) (nI_pos (by omega)) (nI_clamp (by omega)) (by show N * 1 ≤ _; omega) hB hd hp k
theorem ks_newI (hw : Cond.arrayClass .int ∈ lw_tbl) (hN : N < 1000000) (hB : S.1 < ks_B) (hd : decode M.2.1 pc = .ok (.newarray .int, 2)) (hp : pc + 2 = pc') (k : ks_X l G M d pc' lv (.ref S.1 :: st) (ks_add S N (.inl (1, N, .inl (fun _ => 0)))) P) : ks_X l G M d pc lv (.int (nI N) :: st) S P :=
  ks_newa (t := 1) (ty := .int) (at9 := .int) (A0 := (N, .inl (fun _ => 0))) rfl rfl (fun _ h => h) hw (fun _ => rfl) (nI_pos (by omega)) (nI_clamp (by omega)) (by show N * 4 ≤ _; omega) hB hd hp k
theorem ks_newJ (hw : Cond.arrayClass .long ∈ lw_tbl) (hN : N < 1000000) (hB : S.1 < ks_B) (hd : decode M.2.1 pc = .ok (.newarray .long, 2)) (hp : pc + 2 = pc') (k : ks_X l G M d pc' lv (.ref S.1 :: st) (ks_add S N (.inl (2, N, .inr (.inl (fun _ => 0))))) P) : ks_X l G M d pc lv (.int (nI N) :: st) S P :=
  ks_newa (t := 2) (ty := .long) (at9 := .long) (A0 := (N, .inr (.inl (fun _ => 0)))) rfl rfl (fun _ h => h) hw (fun _ => rfl) (nI_pos (by omega)) (nI_clamp (by omega)) (by show N * 8 ≤ _; omega) hB hd hp k
end KsNew
set_option maxRecDepth 100000 in
set_option maxHeartbeats 4000000 in
theorem c_Buffer_init {l : Launch} {G : ks_G} {d : Nat} {S : ks_S} {b N : Nat} (hb : S.2.2 b = some (.inr (4, [.null, .int 0, .int 0]))) (hlt : b < S.1) (hN : N < 1000000) (hB : S.1 < ks_B) : ks_P l G yX1_init mX1_init (d + 1) [.ref b, .int (nI N)] S (fun r S' => r = none ∧ S' = ks_set (ks_add S N (kB N (fun _ => 0))) b (.inr (4, [.ref S.1, .int 0, .int 0]))) := by
  refine ks_of (by decide) rfl rfl (Nat.le_of_ble_eq_true rfl) ?_
  show ks_X l G mX1_init (d + 1) 0 [(0, .ref b), (1, .int (nI N))] [] S _
  refine ks_aload_n dX1_init_0 rfl rfl ?_
  refine ks_objInit kx_50 kx_43 kx_44 (by omega) (by decide) dX1_init_1 rfl ?_
  refine ks_aload_n dX1_init_4 rfl rfl ?_
  refine ks_iload_n dX1_init_5 rfl rfl ?_
  refine ks_newB kx_74 hN hB dX1_init_6 rfl ?_
  refine ks_putF (T := TX1) (kf := 0) kx_51 rfl rfl rfl in_X1 tyX1_ok nmX1 cl_X1 (by decide) ((ks_add_ne S N _ (Nat.ne_of_lt hlt)).trans hb) (Nat.le_of_ble_eq_true rfl) rfl rfl rfl rfl dX1_init_8 rfl ?_
  refine ks_ret rfl dX1_init_11 ?_
  exact ⟨rfl, rfl⟩
