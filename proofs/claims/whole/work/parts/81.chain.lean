/-! CHAIN: small ones -/
def sm32 (g : Nat → Nat) (a : Nat) (h : Nat → Nat) (b : Nat) : Bool := (List.range 32).all (fun j => decide (g (a + j) = h (b + j)))
theorem sm32_iff {g h : Nat → Nat} {a b : Nat} : sm32 g a h b = true ↔ ∀ j, j < 32 → g (a + j) = h (b + j) := by
  unfold sm32
  rw [List.all_eq_true]
  constructor
  · intro q j hj
    exact of_decide_eq_true (q j (List.mem_range.mpr hj))
  · intro q j hj
    exact decide_eq_true (q j (List.mem_range.mp hj))
theorem sm32_c {g h g2 h2 : Nat → Nat} {a b a2 b2 : Nat} (e1 : ∀ j, j < 32 → g (a + j) = g2 (a2 + j)) (e2 : ∀ j, j < 32 → h (b + j) = h2 (b2 + j)) : sm32 g a h b = sm32 g2 a2 h2 b2 := by
  apply Bool.eq_iff_iff.mpr
  rw [sm32_iff, sm32_iff]
  exact ⟨fun q j hj => by rw [← e1 j hj, ← e2 j hj]; exact q j hj, fun q j hj => by rw [e1 j hj, e2 j hj]; exact q j hj⟩
set_option maxRecDepth 100000 in
set_option maxHeartbeats 800000 in
theorem c_ch_isSame {l : Launch} {G : ks_G} {d : Nat} {S : ks_S} {x y N K a b : Nat} {g h : Nat → Nat} (hx : S.2.2 x = some (kB N g)) (hy : S.2.2 y = some (kB K h)) (hg : kO g) (hh : kO h) (hN : N < 2 ^ 20) (hK9 : K < 2 ^ 20) (ha : a + 32 ≤ N) (hb : b + 32 ≤ K) : ks_P l G yX2_isSame mX2_isSame d [.ref x, .int (nI a), .ref y, .int (nI b)] S (fun z S' => z = some (.int (ks_bo (sm32 g a h b))) ∧ S' = S) := by
  have loop : ∀ c i, i + c = 32 → (∀ j, j < i → g (a + j) = h (b + j)) → ks_X l G mX2_isSame d 3 [(0, .ref x), (1, .int (nI a)), (2, .ref y), (3, .int (nI b)), (4, .int (nI i))] [] S (fun z S' => z = some (.int (ks_bo (sm32 g a h b))) ∧ S' = S) := by
    intro c
    induction c with
    | zero =>
      intro i hi hj
      refine ks_iload dX2_isSame_3 rfl rfl ?_
      refine ks_bipush (x := nI 32) dX2_isSame_5 (by decide) rfl ?_
      refine ks_icmp_geN (tgt := 33) (by omega) (by decide) dX2_isSame_7 (by decide) rfl (fun h1 => ?_) (fun h1 => ?_)
      · refine ks_iconst (x := nI 1) dX2_isSame_33 (by decide) rfl ?_
        refine ks_zret rfl rfl dX2_isSame_34 ?_
        obtain rfl : i = 32 := by omega
        refine ⟨?_, rfl⟩
        rw [sm32_iff.mpr hj]
        rfl
      · omega
    | succ c ih =>
      intro i hi hj
      refine ks_iload dX2_isSame_3 rfl rfl ?_
      refine ks_bipush (x := nI 32) dX2_isSame_5 (by decide) rfl ?_
      refine ks_icmp_geN (tgt := 33) (by omega) (by decide) dX2_isSame_7 (by decide) rfl (fun h1 => ?_) (fun h1 => ?_)
      · omega
      · refine ks_aload_n dX2_isSame_10 rfl rfl ?_
        refine ks_iload_n dX2_isSame_11 rfl rfl ?_
        refine ks_iload dX2_isSame_12 rfl rfl ?_
        refine ks_addN dX2_isSame_14 rfl ?_
        refine ks_baldB (i := a + i) hx rfl (by omega) (by omega) dX2_isSame_15 rfl ?_
        refine ks_aload_n dX2_isSame_16 rfl rfl ?_
        refine ks_iload_n dX2_isSame_17 rfl rfl ?_
        refine ks_iload dX2_isSame_18 rfl rfl ?_
        refine ks_addN dX2_isSame_20 rfl ?_
        refine ks_baldB (i := b + i) hy rfl (by omega) (by omega) dX2_isSame_21 rfl ?_
        refine ks_icmp_eqY (tgt := 27) (hg _) (hh _) dX2_isSame_22 (by decide) rfl (fun h2 => ?_) (fun h2 => ?_)
        · refine ks_incN (c := 1) (e := i + 1) dX2_isSame_27 rfl (by decide) rfl (by decide) rfl ?_
          refine ks_sub [(4, _), (0, _), (1, _), (2, _), (3, _)] rfl ?_
          refine ks_goto (tgt := 3) dX2_isSame_30 (by decide) ?_
          exact ks_sub [(0, _), (1, _), (2, _), (3, _), (4, _)] rfl (ih (i + 1) (by omega) (fun j hj2 => by
            by_cases e : j = i
            · rw [e]; exact h2
            · exact hj j (by omega)))
        · refine ks_iconst (x := nI 0) dX2_isSame_25 (by decide) rfl ?_
          refine ks_zret rfl rfl dX2_isSame_26 ?_
          refine ⟨?_, rfl⟩
          have e9 : sm32 g a h b = false := by
            cases hq : sm32 g a h b with
            | false => rfl
            | true => exact absurd (sm32_iff.mp hq i (by omega)) h2
          rw [e9]
          rfl
  refine ks_of (by decide) rfl rfl (Nat.le_of_ble_eq_true rfl) ?_
  show ks_X l G mX2_isSame d 0 [(0, .ref x), (1, .int (nI a)), (2, .ref y), (3, .int (nI b))] [] S _
  refine ks_iconst (x := nI 0) dX2_isSame_0 (by decide) rfl ?_
  refine ks_istore dX2_isSame_1 (by decide) rfl ?_
  refine ks_sub [(4, _), (0, _), (1, _), (2, _), (3, _)] rfl ?_
  exact ks_sub [(0, _), (1, _), (2, _), (3, _), (4, _)] rfl (loop 32 0 rfl (fun j hj => absurd hj (Nat.not_lt_zero j)))
set_option maxRecDepth 100000 in
set_option maxHeartbeats 800000 in
theorem c_ch_blockOf {l : Launch} {G : ks_G} {d : Nat} {S : ks_S} {c : Nat} (hc : c < 2 ^ 31) : ks_P l G yX2_blockOf mX2_blockOf d [.int (nI c)] S (fun z S' => z = some (.int (nI (c / 2 ^ 23))) ∧ S' = S) := by
  have hq : ∀ k, c / 2 ^ k < 2 ^ 31 := fun k => Nat.lt_of_le_of_lt (Nat.div_le_self _ _) hc
  have h19 := hq 19
  have h11 := hq 11
  refine ks_of (by decide) rfl rfl (Nat.le_of_ble_eq_true rfl) ?_
  show ks_X l G mX2_blockOf d 0 [(0, .int (nI c))] [] S _
  refine ks_iload_n dX2_blockOf_0 rfl rfl ?_
  refine ks_bipush (x := nI 23) dX2_blockOf_1 (by decide) rfl ?_
  refine ks_ushrN (k := 23) (by decide) (by omega) dX2_blockOf_3 rfl ?_
  refine ks_iret rfl dX2_blockOf_4 ?_
  exact ⟨rfl, rfl⟩
set_option maxRecDepth 100000 in
set_option maxHeartbeats 800000 in
theorem c_ch_transactionOf {l : Launch} {G : ks_G} {d : Nat} {S : ks_S} {c : Nat} (hc : c < 2 ^ 31) : ks_P l G yX2_transactionOf mX2_transactionOf d [.int (nI c)] S (fun z S' => z = some (.int (nI (c / 2 ^ 19 % 16))) ∧ S' = S) := by
  have hq : ∀ k, c / 2 ^ k < 2 ^ 31 := fun k => Nat.lt_of_le_of_lt (Nat.div_le_self _ _) hc
  have h19 := hq 19
  have h11 := hq 11
  refine ks_of (by decide) rfl rfl (Nat.le_of_ble_eq_true rfl) ?_
  show ks_X l G mX2_transactionOf d 0 [(0, .int (nI c))] [] S _
  refine ks_iload_n dX2_transactionOf_0 rfl rfl ?_
  refine ks_bipush (x := nI 19) dX2_transactionOf_1 (by decide) rfl ?_
  refine ks_ushrN (k := 19) (by decide) (by omega) dX2_transactionOf_3 rfl ?_
  refine ks_bipush (x := nI 15) dX2_transactionOf_4 (by decide) rfl ?_
  refine ks_andN (k := 4) (by omega) (by decide) dX2_transactionOf_6 rfl ?_
  refine ks_iret rfl dX2_transactionOf_7 ?_
  exact ⟨rfl, rfl⟩
set_option maxRecDepth 100000 in
set_option maxHeartbeats 800000 in
theorem c_ch_outputOf {l : Launch} {G : ks_G} {d : Nat} {S : ks_S} {c : Nat} (hc : c < 2 ^ 31) : ks_P l G yX2_outputOf mX2_outputOf d [.int (nI c)] S (fun z S' => z = some (.int (nI (c / 2 ^ 11 % 256))) ∧ S' = S) := by
  have hq : ∀ k, c / 2 ^ k < 2 ^ 31 := fun k => Nat.lt_of_le_of_lt (Nat.div_le_self _ _) hc
  have h19 := hq 19
  have h11 := hq 11
  refine ks_of (by decide) rfl rfl (Nat.le_of_ble_eq_true rfl) ?_
  show ks_X l G mX2_outputOf d 0 [(0, .int (nI c))] [] S _
  refine ks_iload_n dX2_outputOf_0 rfl rfl ?_
  refine ks_bipush (x := nI 11) dX2_outputOf_1 (by decide) rfl ?_
  refine ks_ushrN (k := 11) (by decide) (by omega) dX2_outputOf_3 rfl ?_
  refine ks_sipush (x := nI 255) dX2_outputOf_4 (by decide) rfl ?_
  refine ks_andN (k := 8) (by omega) (by decide) dX2_outputOf_7 rfl ?_
  refine ks_iret rfl dX2_outputOf_8 ?_
  exact ⟨rfl, rfl⟩
def scA (g : Nat → Nat) (c : Nat) : Nat := c % 2048 + 8 + (if g (c % 2048 + 8) = 253 then 3 else 1)
def scZ (g : Nat → Nat) (c : Nat) : Nat := if g (c % 2048 + 8) = 253 then ks_num g (c % 2048 + 9) 2 else g (c % 2048 + 8)
theorem mod2047 (c : Nat) : c % 2 ^ 11 = c % 2048 := rfl
set_option maxRecDepth 100000 in
set_option maxHeartbeats 800000 in
theorem c_ch_scriptAt {l : Launch} {G : ks_G} {d : Nat} {S : ks_S} {c y N : Nat} {g : Nat → Nat} (hc : c < 2 ^ 31) (hy : S.2.2 y = some (kB N g)) (hg : kO g) (hN : N < 2 ^ 20) (hi : c % 2048 + 11 ≤ N) : ks_P l G yX2_scriptAt mX2_scriptAt (d + 1) [.ref y, .int (nI c)] S (fun z S' => z = some (.int (nI (scA g c))) ∧ S' = S) := by
  refine ks_of (by decide) rfl rfl (Nat.le_of_ble_eq_true rfl) ?_
  show ks_X l G mX2_scriptAt (d + 1) 0 [(0, .ref y), (1, .int (nI c))] [] S _
  refine ks_iload_n dX2_scriptAt_0 rfl rfl ?_
  refine ks_sipush (x := nI 2047) dX2_scriptAt_1 (by decide) rfl ?_
  refine ks_andN (k := 11) (by omega) (by decide) dX2_scriptAt_4 rfl ?_
  rw [mod2047 c]
  refine ks_bipush (x := nI 8) dX2_scriptAt_5 (by decide) rfl ?_
  refine ks_addN dX2_scriptAt_7 rfl ?_
  refine ks_istore_n dX2_scriptAt_8 (by decide) rfl ?_
  refine ks_sub [(2, _), (0, _), (1, _)] rfl ?_
  refine ks_iload_n dX2_scriptAt_9 rfl rfl ?_
  refine ks_aload_n dX2_scriptAt_10 rfl rfl ?_
  refine ks_iload_n dX2_scriptAt_11 rfl rfl ?_
  refine ks_baldB (i := c % 2048 + 8) hy rfl (by omega) (by omega) dX2_scriptAt_12 rfl ?_
  refine ks_bipush (x := (-3)) dX2_scriptAt_13 (by decide) rfl ?_
  refine ks_icmp_neYM (tgt := 22) (hg _) 253 (by decide) (by decide) dX2_scriptAt_15 (by decide) rfl (fun h1 => ?_) (fun h1 => ?_)
  · refine ks_iconst (x := nI 1) dX2_scriptAt_22 (by decide) rfl ?_
    refine ks_addN dX2_scriptAt_23 rfl ?_
    refine ks_iret rfl dX2_scriptAt_24 ?_
    refine ⟨?_, rfl⟩
    unfold scA
    rw [if_neg h1]
  · refine ks_iconst (x := nI 3) dX2_scriptAt_18 (by decide) rfl ?_
    refine ks_goto (tgt := 23) dX2_scriptAt_19 (by decide) ?_
    refine ks_addN dX2_scriptAt_23 rfl ?_
    refine ks_iret rfl dX2_scriptAt_24 ?_
    refine ⟨?_, rfl⟩
    unfold scA
    rw [if_pos h1]
set_option maxRecDepth 100000 in
set_option maxHeartbeats 800000 in
theorem c_ch_scriptSize {l : Launch} {G : ks_G} {d : Nat} {S : ks_S} {c y N : Nat} {g : Nat → Nat} (hc : c < 2 ^ 31) (hy : S.2.2 y = some (kB N g)) (hg : kO g) (hN : N < 2 ^ 20) (hi : c % 2048 + 11 ≤ N) : ks_P l G yX2_scriptSize mX2_scriptSize (d + 1) [.ref y, .int (nI c)] S (fun z S' => z = some (.int (nI (scZ g c))) ∧ S' = S) := by
  refine ks_of (by decide) rfl rfl (Nat.le_of_ble_eq_true rfl) ?_
  show ks_X l G mX2_scriptSize (d + 1) 0 [(0, .ref y), (1, .int (nI c))] [] S _
  refine ks_iload_n dX2_scriptSize_0 rfl rfl ?_
  refine ks_sipush (x := nI 2047) dX2_scriptSize_1 (by decide) rfl ?_
  refine ks_andN (k := 11) (by omega) (by decide) dX2_scriptSize_4 rfl ?_
  rw [mod2047 c]
  refine ks_bipush (x := nI 8) dX2_scriptSize_5 (by decide) rfl ?_
  refine ks_addN dX2_scriptSize_7 rfl ?_
  refine ks_istore_n dX2_scriptSize_8 (by decide) rfl ?_
  refine ks_sub [(2, _), (0, _), (1, _)] rfl ?_
  refine ks_aload_n dX2_scriptSize_9 rfl rfl ?_
  refine ks_iload_n dX2_scriptSize_10 rfl rfl ?_
  refine ks_baldB (i := c % 2048 + 8) hy rfl (by omega) (by omega) dX2_scriptSize_11 rfl ?_
  refine ks_bipush (x := (-3)) dX2_scriptSize_12 (by decide) rfl ?_
  refine ks_icmp_neYM (tgt := 29) (hg _) 253 (by decide) (by decide) dX2_scriptSize_14 (by decide) rfl (fun h1 => ?_) (fun h1 => ?_)
  · refine ks_aload_n dX2_scriptSize_29 rfl rfl ?_
    refine ks_iload_n dX2_scriptSize_30 rfl rfl ?_
    refine ks_baldB (i := c % 2048 + 8) hy rfl (by omega) (by omega) dX2_scriptSize_31 rfl ?_
    refine ks_sipush (x := nI 255) dX2_scriptSize_32 (by decide) rfl ?_
    refine ks_andB (hg _) dX2_scriptSize_35 rfl ?_
    have hy35 : g (c % 2048 + 8) < 256 := (hg _)
    refine ks_iret rfl dX2_scriptSize_36 ?_
    refine ⟨?_, rfl⟩
    unfold scZ
    rw [if_neg h1]
  · refine ks_aload_n dX2_scriptSize_17 rfl rfl ?_
    refine ks_iload_n dX2_scriptSize_18 rfl rfl ?_
    refine ks_iconst (x := nI 1) dX2_scriptSize_19 (by decide) rfl ?_
    refine ks_addN dX2_scriptSize_20 rfl ?_
    refine ks_iconst (x := nI 2) dX2_scriptSize_21 (by decide) rfl ?_
    refine ks_callS (n := 3) (M' := mX1_number) (c_Buffer_number (d := d) (i := c % 2048 + 8 + 1) (sz := 2) hy hg (by omega) (by omega) (by decide)) kx_1114 kx_998 kx_2 kx_999 (by decide +kernel) rfl (by decide) (Nat.le_of_ble_eq_true rfl) rfl dX2_scriptSize_22 rfl (fun z1 T1 y1 => ?_)
    obtain ⟨rfl, hT⟩ := y1
    obtain rfl := hT.symm
    refine ks_l2iN dX2_scriptSize_25 rfl ?_
    refine ks_goto (tgt := 36) dX2_scriptSize_26 (by decide) ?_
    refine ks_iret rfl dX2_scriptSize_36 ?_
    refine ⟨?_, rfl⟩
    unfold scZ
    rw [if_pos h1]
