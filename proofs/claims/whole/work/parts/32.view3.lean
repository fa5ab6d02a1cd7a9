/-! TXVIEW: reasons -/
def none_b (g : Nat → Nat) (a : Nat) : Bool := (List.range 32).all (fun j => g (a + j) == 0) && (ks_num g (a + 32) 4 == 4294967295)
def dup_b (g : Nat → Nat) (L p i : Nat) : Bool := (List.range i).any (fun j => (List.range 36).all (fun q => g (iA g L p j + q) == g (iA g L p i + q)))
def fit_b (g : Nat → Nat) (L u m : Nat) : Bool := decide ((∀ i, i < m → val_ g L u i ≤ 2100000000000000) ∧ sum_ (val_ g L u) m ≤ 2100000000000000)
def rf_ (g : Nat → Nat) (L k p m u : Nat) (first : Bool) : Nat :=
  if (decide (k = 1) && none_b g (iA g L p 0)) ≠ first then 7
  else if k = 0 ∨ m = 0 ∨ fit_b g L u m = false then 8
  else if first then (if iZ g L p 0 < 2 ∨ 100 < iZ g L p 0 then 8 else 0)
  else if ∃ i, i < k ∧ (none_b g (iA g L p i) = true ∨ dup_b g L p i = true) then 8 else 0
def last_b (g : Nat → Nat) (L k p e h t : Nat) : Bool := decide (ks_num g (e - 4) 4 = 0 ∨ ks_num g (e - 4) 4 < (if ks_num g (e - 4) 4 < 500000000 then h else t) ∨ ∀ i, i < k → seq_ g L p i = 4294967295)
theorem eq_b {t c : Bool} (h : t = true ↔ c = true) : t = c := by cases t <;> cases c <;> simp_all
theorem lN_neg {v : Nat} (h : 2 ^ 63 ≤ v) (h2 : v < 2 ^ 64) : lN v < lN 0 := by
  apply Int64.lt_iff_toInt_lt.mpr
  rw [lN_ti h2, if_neg (by omega), lN_ti (by decide), if_pos (by decide)]
  omega
theorem sum_le {f : Nat → Nat} {M : Nat} : ∀ {n : Nat}, (∀ i, i < n → f i ≤ M) → sum_ f n ≤ n * M
  | 0, _ => Nat.zero_le _
  | n + 1, h => by
    have h1 := sum_le (n := n) (fun i hi => h i (Nat.lt_succ_of_lt hi))
    have h2 := h n (Nat.lt_succ_self n)
    show sum_ f n + f n ≤ (n + 1) * M
    rw [Nat.succ_mul]
    omega
theorem num4_lt {g : Nat → Nat} (hg : kO g) (p : Nat) : ks_num g p 4 < 4294967296 := ks_num_lt hg 4 p
theorem num8_lt {g : Nat → Nat} (hg : kO g) (p : Nat) : ks_num g p 8 < 2 ^ 64 := ks_num_lt hg 8 p
set_option maxRecDepth 100000 in
set_option maxHeartbeats 2000000 in
theorem c_tv_valuesFit {l : Launch} {G : ks_G} {d : Nat} {S : ks_S} {y N L b k p m u e : Nat} {g : Nat → Nat} (hV : tv_ok S y g L b k p m u e) (hy : S.2.2 y = some (kB N g)) (hg : kO g) (hL : L ≤ N) (hN : N < 2 ^ 18) : ks_P l G yX10_valuesFit mX10_valuesFit (d + 2) [.ref 20] S (fun z S' => z = some (.int (ks_bo (fit_b g L u m))) ∧ S' = S) := by
  obtain ⟨fA, fS, fZ, hA, hS, hZ, h21, h22, h23, h24, h25, h26, hI, hU⟩ := tv_get hV
  have hb9 := tx_bd hV.2.1
  have loop : ∀ c i, i + c = m → (∀ j, j < i → val_ g L u j ≤ 2100000000000000) → ks_X l G mX10_valuesFit (d + 2) 4 [(3, .int (nI i)), (1, .long (lN (sum_ (val_ g L u) i))), (0, .ref 20)] [] S (fun z S' => z = some (.int (ks_bo (fit_b g L u m))) ∧ S' = S) := by
    intro c
    induction c with
    | zero =>
      intro i hi hv
      have hs := sum_le hv
      have hi2 : i ≤ 180 := by omega
      have hi3 : i * 2100000000000000 ≤ 180 * 2100000000000000 := Nat.mul_le_mul_right _ hi2
      refine ks_iload_n dX10_valuesFit_4 rfl rfl ?_
      refine ks_aload_n dX10_valuesFit_5 rfl rfl ?_
      refine ks_getf (T := TX10) (kf := 2) kx_559 rfl in_X10 cl_X10 (by decide) hV.1 rfl dX10_valuesFit_6 rfl ?_
      refine ks_icmp_geN (tgt := 48) (by omega) (by omega) dX10_valuesFit_9 (by decide) rfl (fun hc => ?_) (fun hc => ?_)
      · obtain rfl : i = m := by omega
        refine ks_lload_n dX10_valuesFit_48 rfl rfl ?_
        refine ks_ldc2 dX10_valuesFit_49 kx_1475 rfl ?_
        refine ks_tl (y := lN 2100000000000000) rfl ?_
        refine ks_lif_gtN (tgt := 60) (by omega) (by decide) dX10_valuesFit_52 rfl dX10_valuesFit_53 (by decide) rfl (fun hc52 => ?_) (fun hc52 => ?_)
        · refine ks_iconst (x := nI 0) dX10_valuesFit_60 (by decide) rfl ?_
          refine ks_zret rfl rfl dX10_valuesFit_61 ?_
          refine ⟨?_, rfl⟩
          rw [fit_b, decide_eq_false (fun h => by have := h.2; omega)]
          rfl
        · refine ks_iconst (x := nI 1) dX10_valuesFit_56 (by decide) rfl ?_
          refine ks_goto (tgt := 61) dX10_valuesFit_57 (by decide) ?_
          refine ks_zret rfl rfl dX10_valuesFit_61 ?_
          refine ⟨?_, rfl⟩
          rw [fit_b, decide_eq_true ⟨hv, by omega⟩]
          rfl
      · exact absurd (show m ≤ i by omega) hc
    | succ c ih =>
      intro i hi hv
      have hs := sum_le hv
      have hi2 : i ≤ 180 := by omega
      have hi3 : i * 2100000000000000 ≤ 180 * 2100000000000000 := Nat.mul_le_mul_right _ hi2
      refine ks_iload_n dX10_valuesFit_4 rfl rfl ?_
      refine ks_aload_n dX10_valuesFit_5 rfl rfl ?_
      refine ks_getf (T := TX10) (kf := 2) kx_559 rfl in_X10 cl_X10 (by decide) hV.1 rfl dX10_valuesFit_6 rfl ?_
      refine ks_icmp_geN (tgt := 48) (by omega) (by omega) dX10_valuesFit_9 (by decide) rfl (fun hc => ?_) (fun hc => ?_)
      · exact absurd hc (by omega)
      · refine ks_aload_n dX10_valuesFit_12 rfl rfl ?_
        refine ks_iload_n dX10_valuesFit_13 rfl rfl ?_
        refine ks_callV (n := 1) (M' := mX10_value) (c_tv_value (d := d) (i := i) hV hy hg hL hN (by omega)) hV.1 cl_X10 rfl kx_1471 kx_1472 kx_1473 kx_23 kx_1474 (by decide +kernel) rfl (by decide) (Nat.le_of_ble_eq_true rfl) rfl dX10_valuesFit_14 rfl (fun r1 S1 h1 => ?_)
        obtain ⟨rfl, rfl⟩ := h1
        have h8 : val_ g L u i < 2 ^ 64 := num8_lt hg _
        rcases Nat.lt_or_ge (val_ g L u i) (2 ^ 63) with h9 | h9
        · refine ks_lstore dX10_valuesFit_17 (by decide) rfl ?_
          refine ks_sub [(4, _), (3, _), (1, _), (0, _)] rfl ?_
          refine ks_lload dX10_valuesFit_19 rfl rfl ?_
          refine ks_lconst (x := lN 0) dX10_valuesFit_21 (by decide) rfl ?_
          refine ks_lif_ltN (tgt := 35) (by omega) (by decide) dX10_valuesFit_22 rfl dX10_valuesFit_23 (by decide) rfl (fun hc22 => ?_) (fun hc22 => ?_)
          · refine ks_iconst (x := nI 0) dX10_valuesFit_35 (by decide) rfl ?_
            refine ks_zret rfl rfl dX10_valuesFit_36 ?_
            refine ⟨?_, rfl⟩
            rw [fit_b, decide_eq_false (fun h => by have := h.1 i (by omega); omega)]
            rfl
          · refine ks_lload dX10_valuesFit_26 rfl rfl ?_
            refine ks_ldc2 dX10_valuesFit_28 kx_1475 rfl ?_
            refine ks_tl (y := lN 2100000000000000) rfl ?_
            refine ks_lif_leN (tgt := 37) (by omega) (by decide) dX10_valuesFit_31 rfl dX10_valuesFit_32 (by decide) rfl (fun hc31 => ?_) (fun hc31 => ?_)
            · refine ks_lload_n dX10_valuesFit_37 rfl rfl ?_
              refine ks_lload dX10_valuesFit_38 rfl rfl ?_
              refine ks_laddN dX10_valuesFit_40 rfl ?_
              refine ks_lstore_n dX10_valuesFit_41 (by decide) rfl ?_
              refine ks_sub [(1, _), (3, _), (0, _), (4, _)] rfl ?_
              refine ks_incN (c := 1) (e := i + 1) dX10_valuesFit_42 rfl (by decide) rfl (by decide) rfl ?_
              refine ks_sub [(3, _), (1, _), (0, _), (4, _)] rfl ?_
              refine ks_goto (tgt := 4) dX10_valuesFit_45 (by decide) ?_
              exact ks_sub [(3, _), (1, _), (0, _)] rfl (ih (i + 1) (by omega) (fun j hj => by
                rcases Nat.lt_succ_iff_lt_or_eq.mp hj with h | h
                · exact hv j h
                · rw [h]; omega))
            · refine ks_iconst (x := nI 0) dX10_valuesFit_35 (by decide) rfl ?_
              refine ks_zret rfl rfl dX10_valuesFit_36 ?_
              refine ⟨?_, rfl⟩
              rw [fit_b, decide_eq_false (fun h => by have := h.1 i (by omega); omega)]
              rfl
        · refine ks_lstore dX10_valuesFit_17 (by decide) rfl ?_
          refine ks_sub [(4, _), (3, _), (1, _), (0, _)] rfl ?_
          refine ks_lload dX10_valuesFit_19 rfl rfl ?_
          refine ks_lconst (x := lN 0) dX10_valuesFit_21 (by decide) rfl ?_
          refine ks_lif_lt (tgt := 35) dX10_valuesFit_22 rfl dX10_valuesFit_23 (by decide) rfl (fun hz => ?_) (fun hz => ?_)
          · refine ks_iconst (x := nI 0) dX10_valuesFit_35 (by decide) rfl ?_
            refine ks_zret rfl rfl dX10_valuesFit_36 ?_
            refine ⟨?_, rfl⟩
            rw [fit_b, decide_eq_false (fun h => by have := h.1 i (by omega); omega)]
            rfl
          · exact absurd (lN_neg h9 h8) hz
  refine ks_of (by decide) rfl rfl (Nat.le_of_ble_eq_true rfl) ?_
  show ks_X l G mX10_valuesFit (d + 2) 0 [(0, .ref 20)] [] S _
  refine ks_lconst (x := lN 0) dX10_valuesFit_0 (by decide) rfl ?_
  refine ks_lstore_n dX10_valuesFit_1 (by decide) rfl ?_
  refine ks_sub [(1, _), (0, _)] rfl ?_
  refine ks_iconst (x := nI 0) dX10_valuesFit_2 (by decide) rfl ?_
  refine ks_istore_n dX10_valuesFit_3 (by decide) rfl ?_
  refine ks_sub [(3, _), (0, _), (1, _)] rfl ?_
  exact ks_sub [(3, _), (1, _), (0, _)] rfl (loop m 0 (by omega) (fun j hj => absurd hj (Nat.not_lt_zero j)))
set_option maxRecDepth 100000 in
set_option maxHeartbeats 2000000 in
theorem c_tv_isLast {l : Launch} {G : ks_G} {d : Nat} {S : ks_S} {y N L b k p m u e : Nat} {g : Nat → Nat} (hV : tv_ok S y g L b k p m u e) (hy : S.2.2 y = some (kB N g)) (hg : kO g) (hL : L ≤ N) (hN : N < 2 ^ 18) {h t : Nat} (hh : h < 2 ^ 31) (ht : t < 2 ^ 32) : ks_P l G yX10_isLast mX10_isLast (d + 2) [.ref 20, .int (nI h), .long (lN t)] S (fun z S' => z = some (.int (ks_bo (last_b g L k p e h t))) ∧ S' = S) := by
  obtain ⟨fA, fS, fZ, hA, hS, hZ, h21, h22, h23, h24, h25, h26, hI, hU⟩ := tv_get hV
  have hb9 := tx_bd hV.2.1
  have q4 := num4_lt hg (e - 4)
  have loop : ¬ ks_num g (e - 4) 4 = 0 → ¬ ks_num g (e - 4) 4 < (if ks_num g (e - 4) 4 < 500000000 then h else t) → ∀ c i, i + c = k → (∀ j, j < i → seq_ g L p j = 4294967295) → ks_X l G mX10_isLast (d + 2) 39 [(6, .int (nI i)), (0, .ref 20)] [] S (fun z S' => z = some (.int (ks_bo (last_b g L k p e h t))) ∧ S' = S) := by
    intro n1 n2 c
    induction c with
    | zero =>
      intro i hi hv
      refine ks_iload dX10_isLast_39 rfl rfl ?_
      refine ks_aload_n dX10_isLast_41 rfl rfl ?_
      refine ks_getf (T := TX10) (kf := 1) kx_557 rfl in_X10 cl_X10 (by decide) hV.1 rfl dX10_isLast_42 rfl ?_
      refine ks_icmp_geN (tgt := 69) (by omega) (by omega) dX10_isLast_45 (by decide) rfl (fun hc => ?_) (fun hc => ?_)
      · refine ks_iconst (x := nI 1) dX10_isLast_69 (by decide) rfl ?_
        refine ks_zret rfl rfl dX10_isLast_70 ?_
        obtain rfl : i = k := by omega
        refine ⟨?_, rfl⟩
        rw [last_b, decide_eq_true (Or.inr (Or.inr hv))]
        rfl
      · exact absurd (show k ≤ i by omega) hc
    | succ c ih =>
      intro i hi hv
      refine ks_iload dX10_isLast_39 rfl rfl ?_
      refine ks_aload_n dX10_isLast_41 rfl rfl ?_
      refine ks_getf (T := TX10) (kf := 1) kx_557 rfl in_X10 cl_X10 (by decide) hV.1 rfl dX10_isLast_42 rfl ?_
      refine ks_icmp_geN (tgt := 69) (by omega) (by omega) dX10_isLast_45 (by decide) rfl (fun hc => ?_) (fun hc => ?_)
      · exact absurd hc (by omega)
      · refine ks_aload_n dX10_isLast_48 rfl rfl ?_
        refine ks_iload dX10_isLast_49 rfl rfl ?_
        refine ks_callV (n := 1) (M' := mX10_sequence) (c_tv_sequence (d := d) (i := i) hV hy hg hL hN (by omega)) hV.1 cl_X10 rfl kx_1496 kx_1497 kx_1498 kx_23 kx_1499 (by decide +kernel) rfl (by decide) (Nat.le_of_ble_eq_true rfl) rfl dX10_isLast_51 rfl (fun r1 S1 h1 => ?_)
        obtain ⟨rfl, rfl⟩ := h1
        have h8 : seq_ g L p i < 4294967296 := num4_lt hg _
        refine ks_ldc2 dX10_isLast_54 kx_1466 rfl ?_
        refine ks_tl (y := lN 4294967295) rfl ?_
        refine ks_lif_eqN (tgt := 63) (by omega) (by decide) dX10_isLast_57 rfl dX10_isLast_58 (by decide) rfl (fun hz => ?_) (fun hz => ?_)
        · refine ks_incN (c := 1) (e := i + 1) dX10_isLast_63 rfl (by decide) rfl (by decide) rfl ?_
          refine ks_sub [(6, _), (0, _)] rfl ?_
          refine ks_goto (tgt := 39) dX10_isLast_66 (by decide) ?_
          exact ks_sub [(6, _), (0, _)] rfl (ih (i + 1) (by omega) (fun j hj => by
            rcases Nat.lt_succ_iff_lt_or_eq.mp hj with h | h
            · exact hv j h
            · rw [h]; exact hz))
        · refine ks_iconst (x := nI 0) dX10_isLast_61 (by decide) rfl ?_
          refine ks_zret rfl rfl dX10_isLast_62 ?_
          refine ⟨?_, rfl⟩
          rw [last_b, decide_eq_false (fun h => by
            rcases h with h | h | h
            · exact n1 h
            · exact n2 h
            · exact hz (h i (by omega)))]
          rfl
  refine ks_of (by decide) rfl rfl (Nat.le_of_ble_eq_true rfl) ?_
  show ks_X l G mX10_isLast (d + 2) 0 [(0, .ref 20), (1, .int (nI h)), (2, .long (lN t))] [] S _
  refine ks_aload_n dX10_isLast_0 rfl rfl ?_
  refine ks_callV (n := 0) (M' := mX10_lock) (c_tv_lock (d := d) hV hy hg hL hN) hV.1 cl_X10 rfl kx_1491 kx_1492 kx_1493 kx_23 kx_1494 (by decide +kernel) rfl (by decide) (Nat.le_of_ble_eq_true rfl) rfl dX10_isLast_1 rfl (fun r1 S1 h1 => ?_)
  obtain ⟨rfl, rfl⟩ := h1
  refine ks_lstore dX10_isLast_4 (by decide) rfl ?_
  refine ks_sub [(4, _), (0, _), (1, _), (2, _)] rfl ?_
  refine ks_lload dX10_isLast_6 rfl rfl ?_
  refine ks_lconst (x := lN 0) dX10_isLast_8 (by decide) rfl ?_
  refine ks_lif_eqN (tgt := 34) (by omega) (by decide) dX10_isLast_9 rfl dX10_isLast_10 (by decide) rfl (fun hc9 => ?_) (fun hc9 => ?_)
  · refine ks_iconst (x := nI 1) dX10_isLast_34 (by decide) rfl ?_
    refine ks_zret rfl rfl dX10_isLast_35 ?_
    refine ⟨?_, rfl⟩
    rw [last_b, decide_eq_true (by first | exact Or.inl (by assumption) | (refine Or.inr (Or.inl ?_); split <;> omega))]
    rfl
  · refine ks_lload dX10_isLast_13 rfl rfl ?_
    refine ks_lload dX10_isLast_15 rfl rfl ?_
    refine ks_ldc2 dX10_isLast_17 kx_1495 rfl ?_
    refine ks_tl (y := lN 500000000) rfl ?_
    refine ks_lif_geN (tgt := 29) (by omega) (by decide) dX10_isLast_20 rfl dX10_isLast_21 (by decide) rfl (fun hc20 => ?_) (fun hc20 => ?_)
    · refine ks_lload_n dX10_isLast_29 rfl rfl ?_
      refine ks_lif_geN (tgt := 36) (by omega) (by omega) dX10_isLast_30 rfl dX10_isLast_31 (by decide) rfl (fun hc30 => ?_) (fun hc30 => ?_)
      · refine ks_iconst (x := nI 0) dX10_isLast_36 (by decide) rfl ?_
        refine ks_istore dX10_isLast_37 (by decide) rfl ?_
        refine ks_sub [(6, _), (0, _), (1, _), (2, _), (4, _)] rfl ?_
        refine ks_sub [(0, _), (6, _)] rfl ?_
        refine ks_sub [(6, _), (0, _)] rfl (loop hc9 ?_ k 0 (by omega) (fun j hj => absurd hj (Nat.not_lt_zero j)))
        split <;> omega
      · refine ks_iconst (x := nI 1) dX10_isLast_34 (by decide) rfl ?_
        refine ks_zret rfl rfl dX10_isLast_35 ?_
        refine ⟨?_, rfl⟩
        rw [last_b, decide_eq_true (by first | exact Or.inl (by assumption) | (refine Or.inr (Or.inl ?_); split <;> omega))]
        rfl
    · refine ks_iload_n dX10_isLast_24 rfl rfl ?_
      refine ks_i2lN (by omega) dX10_isLast_25 rfl ?_
      refine ks_goto (tgt := 30) dX10_isLast_26 (by decide) ?_
      refine ks_lif_geN (tgt := 36) (by omega) (by omega) dX10_isLast_30 rfl dX10_isLast_31 (by decide) rfl (fun hc30 => ?_) (fun hc30 => ?_)
      · refine ks_iconst (x := nI 0) dX10_isLast_36 (by decide) rfl ?_
        refine ks_istore dX10_isLast_37 (by decide) rfl ?_
        refine ks_sub [(6, _), (0, _), (1, _), (2, _), (4, _)] rfl ?_
        refine ks_sub [(0, _), (6, _)] rfl ?_
        refine ks_sub [(6, _), (0, _)] rfl (loop hc9 ?_ k 0 (by omega) (fun j hj => absurd hj (Nat.not_lt_zero j)))
        split <;> omega
      · refine ks_iconst (x := nI 1) dX10_isLast_34 (by decide) rfl ?_
        refine ks_zret rfl rfl dX10_isLast_35 ?_
        refine ⟨?_, rfl⟩
        rw [last_b, decide_eq_true (by first | exact Or.inl (by assumption) | (refine Or.inr (Or.inl ?_); split <;> omega))]
        rfl
set_option maxRecDepth 100000 in
set_option maxHeartbeats 2000000 in
theorem c_tv_locksUntil {l : Launch} {G : ks_G} {d : Nat} {S : ks_S} {y N L b k p m u e : Nat} {g : Nat → Nat} (hV : tv_ok S y g L b k p m u e) (hy : S.2.2 y = some (kB N g)) (hg : kO g) (hL : L ≤ N) (hN : N < 2 ^ 18) {q : Int64} {i : Nat} (hi : i < k) : ks_P l G yX10_locksUntil mX10_locksUntil (d + 2) [.ref 20, .long q, .int (nI i)] S (fun z S' => ∃ t, z = some (.int (ks_bo t)) ∧ S' = S ∧ (t = true ↔ 0 ≤ q.toInt ∧ (q.toInt < 500000000 ↔ ks_num g (e - 4) 4 < 500000000) ∧ q.toInt ≤ ks_num g (e - 4) 4 ∧ seq_ g L p i ≠ 4294967295)) := by
  obtain ⟨fA, fS, fZ, hA, hS, hZ, h21, h22, h23, h24, h25, h26, hI, hU⟩ := tv_get hV
  have hb9 := tx_bd hV.2.1
  have q4 := num4_lt hg (e - 4)
  have q5 : seq_ g L p i < 4294967296 := num4_lt hg _
  by_cases hq : q < 0
  · have hq2 : q.toInt < 0 := Int64.lt_iff_toInt_lt.mp hq
    refine ks_of (by decide) rfl rfl (Nat.le_of_ble_eq_true rfl) ?_
    show ks_X l G mX10_locksUntil (d + 2) 0 [(0, .ref 20), (1, .long q), (3, .int (nI i))] [] S _
    refine ks_aload_n dX10_locksUntil_0 rfl rfl ?_
    refine ks_callV (n := 0) (M' := mX10_lock) (c_tv_lock (d := d) hV hy hg hL hN) hV.1 cl_X10 rfl kx_1491 kx_1492 kx_1493 kx_23 kx_1494 (by decide +kernel) rfl (by decide) (Nat.le_of_ble_eq_true rfl) rfl dX10_locksUntil_1 rfl (fun r1 S1 h1 => ?_)
    obtain ⟨rfl, rfl⟩ := h1
    refine ks_lstore dX10_locksUntil_4 (by decide) rfl ?_
    refine ks_sub [(4, _), (0, _), (1, _), (3, _)] rfl ?_
    refine ks_lload_n dX10_locksUntil_6 rfl rfl ?_
    refine ks_lconst (x := lN 0) dX10_locksUntil_7 (by decide) rfl ?_
    refine ks_lif_lt (tgt := 42) dX10_locksUntil_8 rfl dX10_locksUntil_9 (by decide) rfl (fun hz => ?_) (fun hz => ?_)
    · refine ks_iconst (x := nI 0) dX10_locksUntil_42 (by decide) rfl ?_
      refine ks_zret rfl rfl dX10_locksUntil_43 ?_
      exact ⟨false, rfl, rfl, (fun h => by cases h), fun h => by omega⟩
    · exact absurd hq hz
  · obtain ⟨a, ha, rfl⟩ := pk_lOf hq
    have e0 : (lN a).toInt = a := pk_lT ha
    rw [e0]
    refine ks_of (by decide) rfl rfl (Nat.le_of_ble_eq_true rfl) ?_
    show ks_X l G mX10_locksUntil (d + 2) 0 [(0, .ref 20), (1, .long (lN a)), (3, .int (nI i))] [] S _
    refine ks_aload_n dX10_locksUntil_0 rfl rfl ?_
    refine ks_callV (n := 0) (M' := mX10_lock) (c_tv_lock (d := d) hV hy hg hL hN) hV.1 cl_X10 rfl kx_1491 kx_1492 kx_1493 kx_23 kx_1494 (by decide +kernel) rfl (by decide) (Nat.le_of_ble_eq_true rfl) rfl dX10_locksUntil_1 rfl (fun r1 S1 h1 => ?_)
    obtain ⟨rfl, rfl⟩ := h1
    refine ks_lstore dX10_locksUntil_4 (by decide) rfl ?_
    refine ks_sub [(4, _), (0, _), (1, _), (3, _)] rfl ?_
    refine ks_lload_n dX10_locksUntil_6 rfl rfl ?_
    refine ks_lconst (x := lN 0) dX10_locksUntil_7 (by decide) rfl ?_
    refine ks_lif_ltN (tgt := 42) (by omega) (by decide) dX10_locksUntil_8 rfl dX10_locksUntil_9 (by decide) rfl (fun hc8 => ?_) (fun hc8 => ?_)
    · refine ks_iconst (x := nI 0) dX10_locksUntil_42 (by decide) rfl ?_
      refine ks_zret rfl rfl dX10_locksUntil_43 ?_
      exact ⟨false, rfl, rfl, (fun h => by cases h), fun h => by omega⟩
    · refine ks_lload_n dX10_locksUntil_12 rfl rfl ?_
      refine ks_ldc2 dX10_locksUntil_13 kx_1495 rfl ?_
      refine ks_tl (y := lN 500000000) rfl ?_
      refine ks_lif_geN (tgt := 24) (by omega) (by decide) dX10_locksUntil_16 rfl dX10_locksUntil_17 (by decide) rfl (fun hc16 => ?_) (fun hc16 => ?_)
      · refine ks_iconst (x := nI 0) dX10_locksUntil_24 (by decide) rfl ?_
        refine ks_lload dX10_locksUntil_25 rfl rfl ?_
        refine ks_ldc2 dX10_locksUntil_27 kx_1495 rfl ?_
        refine ks_tl (y := lN 500000000) rfl ?_
        refine ks_lif_geN (tgt := 38) (by omega) (by decide) dX10_locksUntil_30 rfl dX10_locksUntil_31 (by decide) rfl (fun hc30 => ?_) (fun hc30 => ?_)
        · refine ks_iconst (x := nI 0) dX10_locksUntil_38 (by decide) rfl ?_
          refine ks_icmp_eqN (tgt := 44) (by decide) (by decide) dX10_locksUntil_39 (by decide) rfl (fun hc39 => ?_) (fun hc39 => ?_)
          · refine ks_lload_n dX10_locksUntil_44 rfl rfl ?_
            refine ks_lload dX10_locksUntil_45 rfl rfl ?_
            refine ks_lif_gtN (tgt := 67) (by omega) (by omega) dX10_locksUntil_47 rfl dX10_locksUntil_48 (by decide) rfl (fun hc47 => ?_) (fun hc47 => ?_)
            · refine ks_iconst (x := nI 0) dX10_locksUntil_67 (by decide) rfl ?_
              refine ks_zret rfl rfl dX10_locksUntil_68 ?_
              exact ⟨false, rfl, rfl, (fun h => by cases h), fun h => by omega⟩
            · refine ks_aload_n dX10_locksUntil_51 rfl rfl ?_
              refine ks_iload_n dX10_locksUntil_52 rfl rfl ?_
              refine ks_callV (n := 1) (M' := mX10_sequence) (c_tv_sequence (d := d) (i := i) hV hy hg hL hN hi) hV.1 cl_X10 rfl kx_1496 kx_1497 kx_1498 kx_23 kx_1499 (by decide +kernel) rfl (by decide) (Nat.le_of_ble_eq_true rfl) rfl dX10_locksUntil_53 rfl (fun r1 S1 h1 => ?_)
              obtain ⟨rfl, rfl⟩ := h1
              refine ks_ldc2 dX10_locksUntil_56 kx_1466 rfl ?_
              refine ks_tl (y := lN 4294967295) rfl ?_
              refine ks_lif_eqN (tgt := 67) (by omega) (by decide) dX10_locksUntil_59 rfl dX10_locksUntil_60 (by decide) rfl (fun hc59 => ?_) (fun hc59 => ?_)
              · refine ks_iconst (x := nI 0) dX10_locksUntil_67 (by decide) rfl ?_
                refine ks_zret rfl rfl dX10_locksUntil_68 ?_
                exact ⟨false, rfl, rfl, (fun h => by cases h), fun h => by omega⟩
              · refine ks_iconst (x := nI 1) dX10_locksUntil_63 (by decide) rfl ?_
                refine ks_goto (tgt := 68) dX10_locksUntil_64 (by decide) ?_
                refine ks_zret rfl rfl dX10_locksUntil_68 ?_
                exact ⟨true, rfl, rfl, fun _ => by omega, fun _ => rfl⟩
          · exact absurd hc39 (by decide)
        · refine ks_iconst (x := nI 1) dX10_locksUntil_34 (by decide) rfl ?_
          refine ks_goto (tgt := 39) dX10_locksUntil_35 (by decide) ?_
          refine ks_icmp_eqN (tgt := 44) (by decide) (by decide) dX10_locksUntil_39 (by decide) rfl (fun hc39 => ?_) (fun hc39 => ?_)
          · exact absurd hc39 (by decide)
          · refine ks_iconst (x := nI 0) dX10_locksUntil_42 (by decide) rfl ?_
            refine ks_zret rfl rfl dX10_locksUntil_43 ?_
            exact ⟨false, rfl, rfl, (fun h => by cases h), fun h => by omega⟩
      · refine ks_iconst (x := nI 1) dX10_locksUntil_20 (by decide) rfl ?_
        refine ks_goto (tgt := 25) dX10_locksUntil_21 (by decide) ?_
        refine ks_lload dX10_locksUntil_25 rfl rfl ?_
        refine ks_ldc2 dX10_locksUntil_27 kx_1495 rfl ?_
        refine ks_tl (y := lN 500000000) rfl ?_
        refine ks_lif_geN (tgt := 38) (by omega) (by decide) dX10_locksUntil_30 rfl dX10_locksUntil_31 (by decide) rfl (fun hc30 => ?_) (fun hc30 => ?_)
        · refine ks_iconst (x := nI 0) dX10_locksUntil_38 (by decide) rfl ?_
          refine ks_icmp_eqN (tgt := 44) (by decide) (by decide) dX10_locksUntil_39 (by decide) rfl (fun hc39 => ?_) (fun hc39 => ?_)
          · exact absurd hc39 (by decide)
          · refine ks_iconst (x := nI 0) dX10_locksUntil_42 (by decide) rfl ?_
            refine ks_zret rfl rfl dX10_locksUntil_43 ?_
            exact ⟨false, rfl, rfl, (fun h => by cases h), fun h => by omega⟩
        · refine ks_iconst (x := nI 1) dX10_locksUntil_34 (by decide) rfl ?_
          refine ks_goto (tgt := 39) dX10_locksUntil_35 (by decide) ?_
          refine ks_icmp_eqN (tgt := 44) (by decide) (by decide) dX10_locksUntil_39 (by decide) rfl (fun hc39 => ?_) (fun hc39 => ?_)
          · refine ks_lload_n dX10_locksUntil_44 rfl rfl ?_
            refine ks_lload dX10_locksUntil_45 rfl rfl ?_
            refine ks_lif_gtN (tgt := 67) (by omega) (by omega) dX10_locksUntil_47 rfl dX10_locksUntil_48 (by decide) rfl (fun hc47 => ?_) (fun hc47 => ?_)
            · refine ks_iconst (x := nI 0) dX10_locksUntil_67 (by decide) rfl ?_
              refine ks_zret rfl rfl dX10_locksUntil_68 ?_
              exact ⟨false, rfl, rfl, (fun h => by cases h), fun h => by omega⟩
            · refine ks_aload_n dX10_locksUntil_51 rfl rfl ?_
              refine ks_iload_n dX10_locksUntil_52 rfl rfl ?_
              refine ks_callV (n := 1) (M' := mX10_sequence) (c_tv_sequence (d := d) (i := i) hV hy hg hL hN hi) hV.1 cl_X10 rfl kx_1496 kx_1497 kx_1498 kx_23 kx_1499 (by decide +kernel) rfl (by decide) (Nat.le_of_ble_eq_true rfl) rfl dX10_locksUntil_53 rfl (fun r1 S1 h1 => ?_)
              obtain ⟨rfl, rfl⟩ := h1
              refine ks_ldc2 dX10_locksUntil_56 kx_1466 rfl ?_
              refine ks_tl (y := lN 4294967295) rfl ?_
              refine ks_lif_eqN (tgt := 67) (by omega) (by decide) dX10_locksUntil_59 rfl dX10_locksUntil_60 (by decide) rfl (fun hc59 => ?_) (fun hc59 => ?_)
              · refine ks_iconst (x := nI 0) dX10_locksUntil_67 (by decide) rfl ?_
                refine ks_zret rfl rfl dX10_locksUntil_68 ?_
                exact ⟨false, rfl, rfl, (fun h => by cases h), fun h => by omega⟩
              · refine ks_iconst (x := nI 1) dX10_locksUntil_63 (by decide) rfl ?_
                refine ks_goto (tgt := 68) dX10_locksUntil_64 (by decide) ?_
                refine ks_zret rfl rfl dX10_locksUntil_68 ?_
                exact ⟨true, rfl, rfl, fun _ => by omega, fun _ => rfl⟩
          · exact absurd hc39 (by decide)
set_option maxRecDepth 100000 in
set_option maxHeartbeats 2000000 in
theorem c_tv_refusal {l : Launch} {G : ks_G} {d : Nat} {S : ks_S} {y N L b k p m u e : Nat} {g : Nat → Nat} (hV : tv_ok S y g L b k p m u e) (hy : S.2.2 y = some (kB N g)) (hg : kO g) (hL : L ≤ N) (hN : N < 2 ^ 18) {first : Bool} : ks_P l G yX10_refusal mX10_refusal (d + 3) [.ref 20, .int (ks_bo first)] S (fun z S' => z = some (.int (nI (rf_ g L k p m u first))) ∧ S' = S) := by
  obtain ⟨fA, fS, fZ, hA, hS, hZ, h21, h22, h23, h24, h25, h26, hI, hU⟩ := tv_get hV
  have hb9 := tx_bd hV.2.1
  have nb : ∀ a t, (t = true ↔ none_ g a) → t = none_b g a := fun a t h => eq_b (h.trans (by simp [none_b, none_, List.all_eq_true]))
  have db : ∀ i t, (t = true ↔ ∃ j, j < i ∧ ∀ q, q < 36 → g (iA g L p j + q) = g (iA g L p i + q)) → t = dup_b g L p i := fun i t h => eq_b (h.trans (by simp [dup_b, List.any_eq_true, List.all_eq_true]))
  have loop : (decide (k = 1) && none_b g (iA g L p 0)) = first → ¬ (k = 0 ∨ m = 0 ∨ fit_b g L u m = false) → first = false → ∀ c i, i + c = k → (∀ j, j < i → ¬ (none_b g (iA g L p j) = true ∨ dup_b g L p j = true)) → ks_X l G mX10_refusal (d + 3) 86 [(2, .int (nI i)), (0, .ref 20)] [] S (fun z S' => z = some (.int (nI (rf_ g L k p m u first))) ∧ S' = S) := by
    intro r1 r2 r3 c
    induction c with
    | zero =>
      intro i hi hv
      refine ks_iload_n dX10_refusal_86 rfl rfl ?_
      refine ks_aload_n dX10_refusal_87 rfl rfl ?_
      refine ks_getf (T := TX10) (kf := 1) kx_557 rfl in_X10 cl_X10 (by decide) hV.1 rfl dX10_refusal_88 rfl ?_
      refine ks_icmp_geN (tgt := 119) (by omega) (by omega) dX10_refusal_91 (by decide) rfl (fun hc => ?_) (fun hc => ?_)
      · refine ks_iconst (x := nI 0) dX10_refusal_119 (by decide) rfl ?_
        refine ks_iret rfl dX10_refusal_120 ?_
        obtain rfl : i = k := by omega
        refine ⟨?_, rfl⟩
        rw [rf_, if_neg (fun h => h r1), if_neg r2, if_neg (by rw [r3]; decide), if_neg (fun h => by obtain ⟨j, h1, h2⟩ := h; exact hv j h1 h2)]
      · exact absurd (show k ≤ i by omega) hc
    | succ c ih =>
      intro i hi hv
      refine ks_iload_n dX10_refusal_86 rfl rfl ?_
      refine ks_aload_n dX10_refusal_87 rfl rfl ?_
      refine ks_getf (T := TX10) (kf := 1) kx_557 rfl in_X10 cl_X10 (by decide) hV.1 rfl dX10_refusal_88 rfl ?_
      refine ks_icmp_geN (tgt := 119) (by omega) (by omega) dX10_refusal_91 (by decide) rfl (fun hc => ?_) (fun hc => ?_)
      · exact absurd hc (by omega)
      · refine ks_aload_n dX10_refusal_94 rfl rfl ?_
        refine ks_iload_n dX10_refusal_95 rfl rfl ?_
        refine ks_callV (n := 1) (M' := mX10_isNone) (c_tv_isNone (d := d + 1) (i := i) hV hy hg hL hN (by omega)) hV.1 cl_X10 rfl kx_1462 kx_1464 kxp_29 kx_23 kx_1465 (by decide +kernel) rfl (by decide) (Nat.le_of_ble_eq_true rfl) rfl dX10_refusal_96 rfl (fun r1 S1 h1 => ?_)
        obtain ⟨t1, rfl, rfl, ht1⟩ := h1
        obtain rfl := nb _ _ ht1
        refine ks_if_neZ (tgt := 110) dX10_refusal_99 (by decide) rfl (fun hc99 => ?_) (fun hc99 => ?_)
        · refine ks_bipush (x := nI 8) dX10_refusal_110 (by decide) rfl ?_
          refine ks_iret rfl dX10_refusal_112 ?_
          refine ⟨?_, rfl⟩
          rw [rf_, if_neg (fun h => h r1), if_neg r2, if_neg (by rw [r3]; decide), if_pos ⟨i, by omega, by first | exact Or.inl (by assumption) | exact Or.inr (by assumption)⟩]
        · refine ks_aload_n dX10_refusal_102 rfl rfl ?_
          refine ks_iload_n dX10_refusal_103 rfl rfl ?_
          refine ks_callV (n := 1) (M' := mX10_isTakenBefore) (c_tv_isTakenBefore (d := d + 2) (i := i) hV hy hg hL hN (by omega)) hV.1 cl_X10 rfl kx_1476 kx_1478 kxp_31 kx_23 kx_1479 (by decide +kernel) rfl (by decide) (Nat.le_of_ble_eq_true rfl) rfl dX10_refusal_104 rfl (fun r1 S1 h1 => ?_)
          obtain ⟨t2, rfl, rfl, ht2⟩ := h1
          obtain rfl := db _ _ ht2
          refine ks_if_eqZ (tgt := 113) dX10_refusal_107 (by decide) rfl (fun hc107 => ?_) (fun hc107 => ?_)
          · refine ks_incN (c := 1) (e := i + 1) dX10_refusal_113 rfl (by decide) rfl (by decide) rfl ?_
            refine ks_sub [(2, _), (0, _)] rfl ?_
            refine ks_goto (tgt := 86) dX10_refusal_116 (by decide) ?_
            exact ks_sub [(2, _), (0, _)] rfl (ih (i + 1) (by omega) (fun j hj => by
              rcases Nat.lt_succ_iff_lt_or_eq.mp hj with h | h
              · exact hv j h
              · rw [h, hc99, hc107]; simp))
          · refine ks_bipush (x := nI 8) dX10_refusal_110 (by decide) rfl ?_
            refine ks_iret rfl dX10_refusal_112 ?_
            refine ⟨?_, rfl⟩
            rw [rf_, if_neg (fun h => h r1), if_neg r2, if_neg (by rw [r3]; decide), if_pos ⟨i, by omega, by first | exact Or.inl (by assumption) | exact Or.inr (by assumption)⟩]
  have mid : (decide (k = 1) && none_b g (iA g L p 0)) = first → ks_X l G mX10_refusal (d + 3) 28 [(0, .ref 20), (1, .int (ks_bo first))] [] S (fun z S' => z = some (.int (nI (rf_ g L k p m u first))) ∧ S' = S) := by
    intro r1
    refine ks_aload_n dX10_refusal_28 rfl rfl ?_
    refine ks_getf (T := TX10) (kf := 1) kx_557 rfl in_X10 cl_X10 (by decide) hV.1 rfl dX10_refusal_29 rfl ?_
    refine ks_if_eqN (tgt := 49) (by omega) dX10_refusal_32 (by decide) rfl (fun hc32 => ?_) (fun hc32 => ?_)
    · refine ks_bipush (x := nI 8) dX10_refusal_49 (by decide) rfl ?_
      refine ks_iret rfl dX10_refusal_51 ?_
      refine ⟨?_, rfl⟩
      rw [rf_, if_neg (fun h => h r1), if_pos (by first | exact Or.inl (by assumption) | exact Or.inr (Or.inl (by assumption)) | exact Or.inr (Or.inr (by assumption)))]
    · refine ks_aload_n dX10_refusal_35 rfl rfl ?_
      refine ks_getf (T := TX10) (kf := 2) kx_559 rfl in_X10 cl_X10 (by decide) hV.1 rfl dX10_refusal_36 rfl ?_
      refine ks_if_eqN (tgt := 49) (by omega) dX10_refusal_39 (by decide) rfl (fun hc39 => ?_) (fun hc39 => ?_)
      · refine ks_bipush (x := nI 8) dX10_refusal_49 (by decide) rfl ?_
        refine ks_iret rfl dX10_refusal_51 ?_
        refine ⟨?_, rfl⟩
        rw [rf_, if_neg (fun h => h r1), if_pos (by first | exact Or.inl (by assumption) | exact Or.inr (Or.inl (by assumption)) | exact Or.inr (Or.inr (by assumption)))]
      · refine ks_aload_n dX10_refusal_42 rfl rfl ?_
        refine ks_callV (n := 0) (M' := mX10_valuesFit) (c_tv_valuesFit (d := d) hV hy hg hL hN) hV.1 cl_X10 rfl kx_1467 kx_1469 kxp_30 kx_23 kx_1470 (by decide +kernel) rfl (by decide) (Nat.le_of_ble_eq_true rfl) rfl dX10_refusal_43 rfl (fun r1 S1 h1 => ?_)
        obtain ⟨rfl, rfl⟩ := h1
        refine ks_if_neZ (tgt := 52) dX10_refusal_46 (by decide) rfl (fun hc46 => ?_) (fun hc46 => ?_)
        · refine ks_iload_n dX10_refusal_52 rfl rfl ?_
          refine ks_if_eqZ (tgt := 84) dX10_refusal_53 (by decide) rfl (fun hc53 => ?_) (fun hc53 => ?_)
          · refine ks_iconst (x := nI 0) dX10_refusal_84 (by decide) rfl ?_
            refine ks_istore_n dX10_refusal_85 (by decide) rfl ?_
            refine ks_sub [(2, _), (0, _), (1, _)] rfl ?_
            refine ks_sub [(0, _), (2, _)] rfl ?_
            exact ks_sub [(2, _), (0, _)] rfl (loop r1 (by simp [hc32, hc39, hc46]) hc53 k 0 (by omega) (fun j hj => absurd hj (Nat.not_lt_zero j)))
          · have e0 := (hI 0 (by omega)).2.2
            obtain ⟨-, -, -, q1, q2, -⟩ := tx_in hV.2.1 0 (by omega)
            refine ks_aload_n dX10_refusal_56 rfl rfl ?_
            refine ks_getf (T := TX10) (kf := 5) kx_565 rfl in_X10 cl_X10 (by decide) hV.1 rfl dX10_refusal_57 rfl ?_
            refine ks_iconst (x := nI 0) dX10_refusal_60 (by decide) rfl ?_
            refine ks_ialdN (i := 0) h23 rfl (by decide) (by decide) dX10_refusal_61 rfl ?_
            refine ks_iconst (x := nI 2) dX10_refusal_62 (by decide) rfl ?_
            refine ks_icmp_ltN (tgt := 77) (by omega) (by decide) dX10_refusal_63 (by decide) rfl (fun hc63 => ?_) (fun hc63 => ?_)
            · refine ks_bipush (x := nI 8) dX10_refusal_77 (by decide) rfl ?_
              refine ks_goto (tgt := 83) dX10_refusal_79 (by decide) ?_
              refine ks_iret rfl dX10_refusal_83 ?_
              refine ⟨?_, rfl⟩
              rw [rf_, if_neg (fun h => h r1), if_neg (by simp [hc32, hc39, hc46]), if_pos hc53, ← e0, if_pos (by omega)]
            · refine ks_aload_n dX10_refusal_66 rfl rfl ?_
              refine ks_getf (T := TX10) (kf := 5) kx_565 rfl in_X10 cl_X10 (by decide) hV.1 rfl dX10_refusal_67 rfl ?_
              refine ks_iconst (x := nI 0) dX10_refusal_70 (by decide) rfl ?_
              refine ks_ialdN (i := 0) h23 rfl (by decide) (by decide) dX10_refusal_71 rfl ?_
              refine ks_bipush (x := nI 100) dX10_refusal_72 (by decide) rfl ?_
              refine ks_icmp_leN (tgt := 82) (by omega) (by decide) dX10_refusal_74 (by decide) rfl (fun hc74 => ?_) (fun hc74 => ?_)
              · refine ks_iconst (x := nI 0) dX10_refusal_82 (by decide) rfl ?_
                refine ks_iret rfl dX10_refusal_83 ?_
                refine ⟨?_, rfl⟩
                rw [rf_, if_neg (fun h => h r1), if_neg (by simp [hc32, hc39, hc46]), if_pos hc53, ← e0, if_neg (by omega)]
              · refine ks_bipush (x := nI 8) dX10_refusal_77 (by decide) rfl ?_
                refine ks_goto (tgt := 83) dX10_refusal_79 (by decide) ?_
                refine ks_iret rfl dX10_refusal_83 ?_
                refine ⟨?_, rfl⟩
                rw [rf_, if_neg (fun h => h r1), if_neg (by simp [hc32, hc39, hc46]), if_pos hc53, ← e0, if_pos (by omega)]
        · refine ks_bipush (x := nI 8) dX10_refusal_49 (by decide) rfl ?_
          refine ks_iret rfl dX10_refusal_51 ?_
          refine ⟨?_, rfl⟩
          rw [rf_, if_neg (fun h => h r1), if_pos (by first | exact Or.inl (by assumption) | exact Or.inr (Or.inl (by assumption)) | exact Or.inr (Or.inr (by assumption)))]
  refine ks_of (by decide) rfl rfl (Nat.le_of_ble_eq_true rfl) ?_
  show ks_X l G mX10_refusal (d + 3) 0 [(0, .ref 20), (1, .int (ks_bo first))] [] S _
  refine ks_aload_n dX10_refusal_0 rfl rfl ?_
  refine ks_getf (T := TX10) (kf := 1) kx_557 rfl in_X10 cl_X10 (by decide) hV.1 rfl dX10_refusal_1 rfl ?_
  refine ks_iconst (x := nI 1) dX10_refusal_4 (by decide) rfl ?_
  refine ks_icmp_neN (tgt := 20) (by omega) (by decide) dX10_refusal_5 (by decide) rfl (fun hc5 => ?_) (fun hc5 => ?_)
  · refine ks_iconst (x := nI 0) dX10_refusal_20 (by decide) rfl ?_
    refine ks_iload_n dX10_refusal_21 rfl rfl ?_
    refine ks_icmp_eqZ (z := false) (w := first) (tgt := 28) dX10_refusal_22 (by decide) rfl (fun hc22 => ?_) (fun hc22 => ?_)
    · exact mid (by first | (simp [hc5, hc13]; first | exact hc22 | exact hc22.symm | simpa using hc22) | (simp [hc5]; first | exact hc22 | exact hc22.symm | simpa using hc22))
    · refine ks_bipush (x := nI 7) dX10_refusal_25 (by decide) rfl ?_
      refine ks_iret rfl dX10_refusal_27 ?_
      refine ⟨?_, rfl⟩
      rw [rf_, if_pos (by first | (simp [hc5, hc13]; first | done | exact hc22 | simpa using hc22) | (simp [hc5]; first | done | exact hc22 | simpa using hc22))]
  · refine ks_aload_n dX10_refusal_8 rfl rfl ?_
    refine ks_iconst (x := nI 0) dX10_refusal_9 (by decide) rfl ?_
    refine ks_callV (n := 1) (M' := mX10_isNone) (c_tv_isNone (d := d + 1) (i := 0) hV hy hg hL hN (by omega)) hV.1 cl_X10 rfl kx_1462 kx_1464 kxp_29 kx_23 kx_1465 (by decide +kernel) rfl (by decide) (Nat.le_of_ble_eq_true rfl) rfl dX10_refusal_10 rfl (fun r1 S1 h1 => ?_)
    obtain ⟨t1, rfl, rfl, ht1⟩ := h1
    obtain rfl := nb _ _ ht1
    refine ks_if_eqZ (tgt := 20) dX10_refusal_13 (by decide) rfl (fun hc13 => ?_) (fun hc13 => ?_)
    · refine ks_iconst (x := nI 0) dX10_refusal_20 (by decide) rfl ?_
      refine ks_iload_n dX10_refusal_21 rfl rfl ?_
      refine ks_icmp_eqZ (z := false) (w := first) (tgt := 28) dX10_refusal_22 (by decide) rfl (fun hc22 => ?_) (fun hc22 => ?_)
      · exact mid (by first | (simp [hc5, hc13]; first | exact hc22 | exact hc22.symm | simpa using hc22) | (simp [hc5]; first | exact hc22 | exact hc22.symm | simpa using hc22))
      · refine ks_bipush (x := nI 7) dX10_refusal_25 (by decide) rfl ?_
        refine ks_iret rfl dX10_refusal_27 ?_
        refine ⟨?_, rfl⟩
        rw [rf_, if_pos (by first | (simp [hc5, hc13]; first | done | exact hc22 | simpa using hc22) | (simp [hc5]; first | done | exact hc22 | simpa using hc22))]
    · refine ks_iconst (x := nI 1) dX10_refusal_16 (by decide) rfl ?_
      refine ks_goto (tgt := 21) dX10_refusal_17 (by decide) ?_
      refine ks_iload_n dX10_refusal_21 rfl rfl ?_
      refine ks_icmp_eqZ (z := true) (w := first) (tgt := 28) dX10_refusal_22 (by decide) rfl (fun hc22 => ?_) (fun hc22 => ?_)
      · exact mid (by first | (simp [hc5, hc13]; first | exact hc22 | exact hc22.symm | simpa using hc22) | (simp [hc5]; first | exact hc22 | exact hc22.symm | simpa using hc22))
      · refine ks_bipush (x := nI 7) dX10_refusal_25 (by decide) rfl ?_
        refine ks_iret rfl dX10_refusal_27 ?_
        refine ⟨?_, rfl⟩
        rw [rf_, if_pos (by first | (simp [hc5, hc13]; first | done | exact hc22 | simpa using hc22) | (simp [hc5]; first | done | exact hc22 | simpa using hc22))]
