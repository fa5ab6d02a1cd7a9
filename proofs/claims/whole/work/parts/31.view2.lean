/-! TXVIEW: what was read -/
def iA (g : Nat → Nat) (L p i : Nat) : Nat := (ip g L p i).getD 0
def iZ (g : Nat → Nat) (L p i : Nat) : Nat := ((rc g (iA g L p i + 36) L L).getD (0, 0)).1
def iS (g : Nat → Nat) (L p i : Nat) : Nat := ((rc g (iA g L p i + 36) L L).getD (0, 0)).2
def oA (g : Nat → Nat) (L p i : Nat) : Nat := (ot g L p i).getD 0
def oZ (g : Nat → Nat) (L p i : Nat) : Nat := ((rc g (oA g L p i + 8) L L).getD (0, 0)).1
def oS (g : Nat → Nat) (L p i : Nat) : Nat := ((rc g (oA g L p i + 8) L L).getD (0, 0)).2
def seq_ (g : Nat → Nat) (L p i : Nat) : Nat := ks_num g (iS g L p i + iZ g L p i) 4
def val_ (g : Nat → Nat) (L u i : Nat) : Nat := ks_num g (oA g L u i) 8
def sum_ (f : Nat → Nat) : Nat → Nat
  | 0 => 0
  | n + 1 => sum_ f n + f n
theorem ip_mono {g : Nat → Nat} {L p j a : Nat} (h1 : ip g L p j = some a) : ∀ {k q : Nat}, j ≤ k → ip g L p k = some q → a ≤ q
  | 0, q, h, h2 => by obtain rfl : j = 0 := by omega
                      rw [h1] at h2; cases h2; exact Nat.le_refl _
  | k + 1, q, h, h2 => by
    rcases Nat.lt_or_eq_of_le h with h3 | h3
    · simp only [ip] at h2
      split at h2
      · cases h2
      · rename_i b hb
        have h4 := ip_mono h1 (Nat.le_of_lt_succ h3) hb
        split at h2
        · cases h2
        · rename_i n s hr
          have := rc_some hr
          cases h2
          omega
    · subst h3; rw [h1] at h2; cases h2; exact Nat.le_refl _
theorem ot_mono {g : Nat → Nat} {L p j a : Nat} (h1 : ot g L p j = some a) : ∀ {k q : Nat}, j ≤ k → ot g L p k = some q → a ≤ q
  | 0, q, h, h2 => by obtain rfl : j = 0 := by omega
                      rw [h1] at h2; cases h2; exact Nat.le_refl _
  | k + 1, q, h, h2 => by
    rcases Nat.lt_or_eq_of_le h with h3 | h3
    · simp only [ot] at h2
      split at h2
      · cases h2
      · rename_i b hb
        have h4 := ot_mono h1 (Nat.le_of_lt_succ h3) hb
        split at h2
        · cases h2
        · rename_i n s hr
          have := rc_some hr
          cases h2
          omega
    · subst h3; rw [h1] at h2; cases h2; exact Nat.le_refl _
theorem tx_inv {g : Nat → Nat} {b L k p m u e : Nat} (h : tx_ g b L = some (k, p, m, u, e)) : rc g (b + 4) L 40 = some (k, p) ∧ ∃ q, ip g L p k = some q ∧ rc g q L 180 = some (m, u) ∧ ot g L u m = some (e - 4) ∧ 4 ≤ e ∧ e ≤ L := by
  unfold tx_ at h
  split at h
  · cases h
  · rename_i k1 p1 h1
    split at h
    · cases h
    · rename_i q hq
      split at h
      · cases h
      · rename_i m1 u1 hm
        split at h
        · cases h
        · rename_i e1 he
          split at h
          · cases h
            exact ⟨h1, q, hq, hm, he, by omega, by assumption⟩
          · cases h
theorem ip_get {g : Nat → Nat} {L p : Nat} : ∀ {k q : Nat}, ip g L p k = some q → ∀ i, i < k → ∃ a n s, ip g L p i = some a ∧ rc g (a + 36) L L = some (n, s)
  | 0, _, _, i, hi => absurd hi (Nat.not_lt_zero i)
  | k + 1, q, h, i, hi => by
    simp only [ip] at h
    split at h
    · cases h
    · rename_i a ha
      split at h
      · cases h
      · rename_i n s hr
        rcases Nat.lt_succ_iff_lt_or_eq.mp hi with h3 | h3
        · exact ip_get ha i h3
        · subst h3; exact ⟨a, n, s, ha, hr⟩
theorem ot_get {g : Nat → Nat} {L p : Nat} : ∀ {k q : Nat}, ot g L p k = some q → ∀ i, i < k → ∃ a n s, ot g L p i = some a ∧ rc g (a + 8) L L = some (n, s)
  | 0, _, _, i, hi => absurd hi (Nat.not_lt_zero i)
  | k + 1, q, h, i, hi => by
    simp only [ot] at h
    split at h
    · cases h
    · rename_i a ha
      split at h
      · cases h
      · rename_i n s hr
        rcases Nat.lt_succ_iff_lt_or_eq.mp hi with h3 | h3
        · exact ot_get ha i h3
        · subst h3; exact ⟨a, n, s, ha, hr⟩
/-- where things lie in a transaction -/
theorem tx_in {g : Nat → Nat} {b L k p m u e : Nat} (h : tx_ g b L = some (k, p, m, u, e)) : ∀ i, i < k → ip g L p i = some (iA g L p i) ∧ rc g (iA g L p i + 36) L L = some (iZ g L p i, iS g L p i) ∧ p ≤ iA g L p i ∧ iA g L p i + 37 ≤ iS g L p i ∧ iS g L p i + iZ g L p i + 4 < L ∧ iS g L p i + iZ g L p i + 4 + 5 ≤ e := fun i hi => by
  obtain ⟨-, q, hq, hm, hu, h4, h5⟩ := tx_inv h
  obtain ⟨a, n, s, ha, hr⟩ := ip_get hq i hi
  have e1 : iA g L p i = a := by unfold iA; rw [ha]; rfl
  have e2 : iZ g L p i = n := by unfold iZ; rw [e1, hr]; rfl
  have e3 : iS g L p i = s := by unfold iS; rw [e1, hr]; rfl
  rw [e1, e2, e3]
  have m1 := ip_mono (ip_s ha hr) (show i + 1 ≤ k by omega) hq
  have m2 := ip_mono (j := 0) rfl (show 0 ≤ i by omega) ha
  have r1 := rc_some hr
  have r2 := rc_some hm
  have m3 := ot_mono (j := 0) rfl (Nat.zero_le m) hu
  exact ⟨ha, hr, m2, by omega, by omega, by omega⟩
theorem tx_out {g : Nat → Nat} {b L k p m u e : Nat} (h : tx_ g b L = some (k, p, m, u, e)) : ∀ i, i < m → ot g L u i = some (oA g L u i) ∧ rc g (oA g L u i + 8) L L = some (oZ g L u i, oS g L u i) ∧ u ≤ oA g L u i ∧ oA g L u i + 9 ≤ oS g L u i ∧ oS g L u i + oZ g L u i + 4 ≤ e := fun i hi => by
  obtain ⟨-, q, hq, hm, hu, h4, h5⟩ := tx_inv h
  obtain ⟨a, n, s, ha, hr⟩ := ot_get hu i hi
  have e1 : oA g L u i = a := by unfold oA; rw [ha]; rfl
  have e2 : oZ g L u i = n := by unfold oZ; rw [e1, hr]; rfl
  have e3 : oS g L u i = s := by unfold oS; rw [e1, hr]; rfl
  rw [e1, e2, e3]
  have m1 := ot_mono (ot_s ha hr) (show i + 1 ≤ m by omega) hu
  have m2 := ot_mono (j := 0) rfl (show 0 ≤ i by omega) ha
  have r1 := rc_some hr
  exact ⟨ha, hr, m2, by omega, by omega⟩
theorem tx_bd {g : Nat → Nat} {b L k p m u e : Nat} (h : tx_ g b L = some (k, p, m, u, e)) : k ≤ 40 ∧ m ≤ 180 ∧ e ≤ L ∧ b + 10 ≤ e ∧ b + 5 ≤ p ∧ p < u ∧ u + 4 ≤ e := by
  obtain ⟨h1, q, hq, hm, hu, h4, h5⟩ := tx_inv h
  have r1 := rc_some h1
  have r2 := rc_some hm
  have m1 := ip_mono (j := 0) rfl (Nat.zero_le k) hq
  have m3 := ot_mono (j := 0) rfl (Nat.zero_le m) hu
  omega
/-- the view in the words of the bytes -/
theorem tv_get {S : ks_S} {y : Nat} {g : Nat → Nat} {L b k p m u e : Nat} (h : tv_ok S y g L b k p m u e) : ∃ fA fS fZ hA hS hZ, S.2.2 21 = some (kN 40 fA) ∧ S.2.2 22 = some (kN 40 fS) ∧ S.2.2 23 = some (kN 40 fZ) ∧ S.2.2 24 = some (kN 180 hA) ∧ S.2.2 25 = some (kN 180 hS) ∧ S.2.2 26 = some (kN 180 hZ) ∧ (∀ i, i < k → fA i = iA g L p i ∧ fS i = iS g L p i ∧ fZ i = iZ g L p i) ∧ (∀ i, i < m → hA i = oA g L u i ∧ hS i = oS g L u i ∧ hZ i = oZ g L u i) := by
  obtain ⟨-, ht, fA, fS, fZ, hA, hS, hZ, c1, c2, c3, c4, c5, c6, hI, hU⟩ := h
  refine ⟨fA, fS, fZ, hA, hS, hZ, c1, c2, c3, c4, c5, c6, fun i hi => ?_, fun i hi => ?_⟩
  · obtain ⟨a1, a2⟩ := hI i hi
    obtain ⟨b1, b2, -⟩ := tx_in ht i hi
    rw [a1] at b1
    have e1 := Option.some.inj b1
    rw [e1] at a2
    rw [a2] at b2
    have e2 := Prod.mk.inj (Option.some.inj b2)
    exact ⟨e1, e2.2, e2.1⟩
  · obtain ⟨a1, a2⟩ := hU i hi
    obtain ⟨b1, b2, -⟩ := tx_out ht i hi
    rw [a1] at b1
    have e1 := Option.some.inj b1
    rw [e1] at a2
    rw [a2] at b2
    have e2 := Prod.mk.inj (Option.some.inj b2)
    exact ⟨e1, e2.2, e2.1⟩
theorem tv_ok.up {S S1 : ks_S} {y : Nat} {g : Nat → Nat} {L b k p m u e : Nat} {L9 : List Nat} (h : tv_ok S y g L b k p m u e) (hu : ks_up S S1 L9) (hn : (20 ∉ L9 ∧ 21 ∉ L9 ∧ 22 ∉ L9 ∧ 23 ∉ L9) ∧ 24 ∉ L9 ∧ 25 ∉ L9 ∧ 26 ∉ L9) : tv_ok S1 y g L b k p m u e := by
  obtain ⟨a, t, fA, fS, fZ, hA, hS, hZ, c1, c2, c3, c4, c5, c6, c7, c8⟩ := h
  exact ⟨hu.at a hn.1.1, t, fA, fS, fZ, hA, hS, hZ, hu.at c1 hn.1.2.1, hu.at c2 hn.1.2.2.1, hu.at c3 hn.1.2.2.2, hu.at c4 hn.2.1, hu.at c5 hn.2.2.1, hu.at c6 hn.2.2.2, c7, c8⟩
theorem tvR.up {S S1 : ks_S} {L9 : List Nat} (h : tvR S) (hu : ks_up S S1 L9) (hn : (20 ∉ L9 ∧ 21 ∉ L9 ∧ 22 ∉ L9 ∧ 23 ∉ L9) ∧ 24 ∉ L9 ∧ 25 ∉ L9 ∧ 26 ∉ L9) : tvR S1 := by
  obtain ⟨vy, i1, i2, i9, x, fA, fS, fZ, hA, hS, hZ, a, c1, c2, c3, c4, c5, c6⟩ := h
  exact ⟨vy, i1, i2, i9, x, fA, fS, fZ, hA, hS, hZ, hu.at a hn.1.1, hu.at c1 hn.1.2.1, hu.at c2 hn.1.2.2.1, hu.at c3 hn.1.2.2.2, hu.at c4 hn.2.1, hu.at c5 hn.2.2.1, hu.at c6 hn.2.2.2⟩
set_option maxRecDepth 100000 in
set_option maxHeartbeats 40000000 in
theorem c_tv_sequence {l : Launch} {G : ks_G} {d : Nat} {S : ks_S} {y N L b k p m u e : Nat} {g : Nat → Nat} (hV : tv_ok S y g L b k p m u e) (hy : S.2.2 y = some (kB N g)) (hg : kO g) (hL : L ≤ N) (hN : N < 2 ^ 18) {i : Nat} (hi : i < k) : ks_P l G yX10_sequence mX10_sequence (d + 1) [.ref 20, .int (nI i)] S (fun z S' => z = some (.long (lN (seq_ g L p i))) ∧ S' = S) := by
  obtain ⟨fA, fS, fZ, hA, hS, hZ, h21, h22, h23, h24, h25, h26, hI, hU⟩ := tv_get hV
  have hb9 := tx_bd hV.2.1
  obtain ⟨e1, e2, e3⟩ := hI i hi
  obtain ⟨-, -, -, q1, q2, -⟩ := tx_in hV.2.1 i hi
  unfold seq_
  rw [← e2, ← e3]
  rw [← e2, ← e3] at q2
  refine ks_of (by decide) rfl rfl (Nat.le_of_ble_eq_true rfl) ?_
  show ks_X l G mX10_sequence (d + 1) 0 [(0, .ref 20), (1, .int (nI i))] [] S _
  refine ks_aload_n dX10_sequence_0 rfl rfl ?_
  refine ks_getf (T := TX10) (kf := 0) kx_554 rfl in_X10 cl_X10 (by decide) hV.1 rfl dX10_sequence_1 rfl ?_
  refine ks_aload_n dX10_sequence_4 rfl rfl ?_
  refine ks_getf (T := TX10) (kf := 4) kx_563 rfl in_X10 cl_X10 (by decide) hV.1 rfl dX10_sequence_5 rfl ?_
  refine ks_iload_n dX10_sequence_8 rfl rfl ?_
  refine ks_ialdN (i := i) h22 rfl (by omega) (by decide) dX10_sequence_9 rfl ?_
  refine ks_aload_n dX10_sequence_10 rfl rfl ?_
  refine ks_getf (T := TX10) (kf := 5) kx_565 rfl in_X10 cl_X10 (by decide) hV.1 rfl dX10_sequence_11 rfl ?_
  refine ks_iload_n dX10_sequence_14 rfl rfl ?_
  refine ks_ialdN (i := i) h23 rfl (by omega) (by decide) dX10_sequence_15 rfl ?_
  refine ks_addN dX10_sequence_16 rfl ?_
  refine ks_iconst (x := nI 4) dX10_sequence_17 (by decide) rfl ?_
  refine ks_callS (n := 3) (M' := mX1_number) (c_Buffer_number (d := d) (i := fS i + fZ i) (sz := 4) hy hg (by omega) (by omega) (by decide)) kx_997 kx_998 kx_2 kx_999 (by decide +kernel) rfl (by decide) (Nat.le_of_ble_eq_true rfl) rfl dX10_sequence_18 rfl (fun r1 S1 h1 => ?_)
  obtain ⟨rfl, rfl⟩ := h1
  refine ks_lret rfl dX10_sequence_21 ?_
  exact ⟨rfl, rfl⟩
set_option maxRecDepth 100000 in
set_option maxHeartbeats 40000000 in
theorem c_tv_lock {l : Launch} {G : ks_G} {d : Nat} {S : ks_S} {y N L b k p m u e : Nat} {g : Nat → Nat} (hV : tv_ok S y g L b k p m u e) (hy : S.2.2 y = some (kB N g)) (hg : kO g) (hL : L ≤ N) (hN : N < 2 ^ 18) : ks_P l G yX10_lock mX10_lock (d + 1) [.ref 20] S (fun z S' => z = some (.long (lN (ks_num g (e - 4) 4))) ∧ S' = S) := by
  obtain ⟨fA, fS, fZ, hA, hS, hZ, h21, h22, h23, h24, h25, h26, hI, hU⟩ := tv_get hV
  have hb9 := tx_bd hV.2.1
  refine ks_of (by decide) rfl rfl (Nat.le_of_ble_eq_true rfl) ?_
  show ks_X l G mX10_lock (d + 1) 0 [(0, .ref 20)] [] S _
  refine ks_aload_n dX10_lock_0 rfl rfl ?_
  refine ks_getf (T := TX10) (kf := 0) kx_554 rfl in_X10 cl_X10 (by decide) hV.1 rfl dX10_lock_1 rfl ?_
  refine ks_aload_n dX10_lock_4 rfl rfl ?_
  refine ks_getf (T := TX10) (kf := 10) kx_572 rfl in_X10 cl_X10 (by decide) hV.1 rfl dX10_lock_5 rfl ?_
  refine ks_iconst (x := nI 4) dX10_lock_8 (by decide) rfl ?_
  refine ks_subN (by omega) dX10_lock_9 rfl ?_
  refine ks_iconst (x := nI 4) dX10_lock_10 (by decide) rfl ?_
  refine ks_callS (n := 3) (M' := mX1_number) (c_Buffer_number (d := d) (i := e - 4) (sz := 4) hy hg (by omega) (by omega) (by decide)) kx_997 kx_998 kx_2 kx_999 (by decide +kernel) rfl (by decide) (Nat.le_of_ble_eq_true rfl) rfl dX10_lock_11 rfl (fun r1 S1 h1 => ?_)
  obtain ⟨rfl, rfl⟩ := h1
  refine ks_lret rfl dX10_lock_14 ?_
  exact ⟨rfl, rfl⟩
set_option maxRecDepth 100000 in
set_option maxHeartbeats 40000000 in
theorem c_tv_value {l : Launch} {G : ks_G} {d : Nat} {S : ks_S} {y N L b k p m u e : Nat} {g : Nat → Nat} (hV : tv_ok S y g L b k p m u e) (hy : S.2.2 y = some (kB N g)) (hg : kO g) (hL : L ≤ N) (hN : N < 2 ^ 18) {i : Nat} (hi : i < m) : ks_P l G yX10_value mX10_value (d + 1) [.ref 20, .int (nI i)] S (fun z S' => z = some (.long (lN (val_ g L u i))) ∧ S' = S) := by
  obtain ⟨fA, fS, fZ, hA, hS, hZ, h21, h22, h23, h24, h25, h26, hI, hU⟩ := tv_get hV
  have hb9 := tx_bd hV.2.1
  obtain ⟨e1, e2, e3⟩ := hU i hi
  obtain ⟨-, -, -, q1, q2⟩ := tx_out hV.2.1 i hi
  unfold val_
  rw [← e1]
  rw [← e1] at q1
  refine ks_of (by decide) rfl rfl (Nat.le_of_ble_eq_true rfl) ?_
  show ks_X l G mX10_value (d + 1) 0 [(0, .ref 20), (1, .int (nI i))] [] S _
  refine ks_aload_n dX10_value_0 rfl rfl ?_
  refine ks_getf (T := TX10) (kf := 0) kx_554 rfl in_X10 cl_X10 (by decide) hV.1 rfl dX10_value_1 rfl ?_
  refine ks_aload_n dX10_value_4 rfl rfl ?_
  refine ks_getf (T := TX10) (kf := 6) kx_567 rfl in_X10 cl_X10 (by decide) hV.1 rfl dX10_value_5 rfl ?_
  refine ks_iload_n dX10_value_8 rfl rfl ?_
  refine ks_ialdN (i := i) h24 rfl (by omega) (by decide) dX10_value_9 rfl ?_
  refine ks_bipush (x := nI 8) dX10_value_10 (by decide) rfl ?_
  refine ks_callS (n := 3) (M' := mX1_number) (c_Buffer_number (d := d) (i := hA i) (sz := 8) hy hg (by omega) (by omega) (by decide)) kx_997 kx_998 kx_2 kx_999 (by decide +kernel) rfl (by decide) (Nat.le_of_ble_eq_true rfl) rfl dX10_value_12 rfl (fun r1 S1 h1 => ?_)
  obtain ⟨rfl, rfl⟩ := h1
  refine ks_lret rfl dX10_value_15 ?_
  exact ⟨rfl, rfl⟩
set_option maxRecDepth 100000 in
set_option maxHeartbeats 40000000 in
theorem c_tv_allValues {l : Launch} {G : ks_G} {d : Nat} {S : ks_S} {y N L b k p m u e : Nat} {g : Nat → Nat} (hV : tv_ok S y g L b k p m u e) (hy : S.2.2 y = some (kB N g)) (hg : kO g) (hL : L ≤ N) (hN : N < 2 ^ 18) : ks_P l G yX10_allValues mX10_allValues (d + 2) [.ref 20] S (fun z S' => z = some (.long (lN (sum_ (val_ g L u) m))) ∧ S' = S) := by
  obtain ⟨fA, fS, fZ, hA, hS, hZ, h21, h22, h23, h24, h25, h26, hI, hU⟩ := tv_get hV
  have hb9 := tx_bd hV.2.1
  have loop : ∀ c i, i + c = m → ks_X l G mX10_allValues (d + 2) 4 [(3, .int (nI i)), (1, .long (lN (sum_ (val_ g L u) i))), (0, .ref 20)] [] S (fun z S' => z = some (.long (lN (sum_ (val_ g L u) m))) ∧ S' = S) := by
    intro c
    induction c with
    | zero =>
      intro i hi
      refine ks_iload_n dX10_allValues_4 rfl rfl ?_
      refine ks_aload_n dX10_allValues_5 rfl rfl ?_
      refine ks_getf (T := TX10) (kf := 2) kx_559 rfl in_X10 cl_X10 (by decide) hV.1 rfl dX10_allValues_6 rfl ?_
      refine ks_icmp_geN (tgt := 26) (by omega) (by omega) dX10_allValues_9 (by decide) rfl (fun hc => ?_) (fun hc => ?_)
      · obtain rfl : i = m := by omega
        refine ks_lload_n dX10_allValues_26 rfl rfl ?_
        refine ks_lret rfl dX10_allValues_27 ?_
        exact ⟨rfl, rfl⟩
      · exact absurd (show m ≤ i by omega) hc
    | succ c ih =>
      intro i hi
      refine ks_iload_n dX10_allValues_4 rfl rfl ?_
      refine ks_aload_n dX10_allValues_5 rfl rfl ?_
      refine ks_getf (T := TX10) (kf := 2) kx_559 rfl in_X10 cl_X10 (by decide) hV.1 rfl dX10_allValues_6 rfl ?_
      refine ks_icmp_geN (tgt := 26) (by omega) (by omega) dX10_allValues_9 (by decide) rfl (fun hc => ?_) (fun hc => ?_)
      · exact absurd hc (by omega)
      · refine ks_lload_n dX10_allValues_12 rfl rfl ?_
        refine ks_aload_n dX10_allValues_13 rfl rfl ?_
        refine ks_iload_n dX10_allValues_14 rfl rfl ?_
        refine ks_callV (n := 1) (M' := mX10_value) (c_tv_value (d := d) (i := i) hV hy hg hL hN (by omega)) hV.1 cl_X10 rfl kx_1471 kx_1472 kx_1473 kx_23 kx_1474 (by decide +kernel) rfl (by decide) (Nat.le_of_ble_eq_true rfl) rfl dX10_allValues_15 rfl (fun r1 S1 h1 => ?_)
        obtain ⟨rfl, rfl⟩ := h1
        refine ks_laddN dX10_allValues_18 rfl ?_
        refine ks_lstore_n dX10_allValues_19 (by decide) rfl ?_
        refine ks_sub [(1, _), (3, _), (0, _)] rfl ?_
        refine ks_incN (c := 1) (e := i + 1) dX10_allValues_20 rfl (by decide) rfl (by decide) rfl ?_
        refine ks_sub [(3, _), (1, _), (0, _)] rfl ?_
        refine ks_goto (tgt := 4) dX10_allValues_23 (by decide) ?_
        exact ks_sub [(3, _), (1, _), (0, _)] rfl (ih (i + 1) (by omega))
  refine ks_of (by decide) rfl rfl (Nat.le_of_ble_eq_true rfl) ?_
  show ks_X l G mX10_allValues (d + 2) 0 [(0, .ref 20)] [] S _
  refine ks_lconst (x := lN 0) dX10_allValues_0 (by decide) rfl ?_
  refine ks_lstore_n dX10_allValues_1 (by decide) rfl ?_
  refine ks_sub [(1, _), (0, _)] rfl ?_
  refine ks_iconst (x := nI 0) dX10_allValues_2 (by decide) rfl ?_
  refine ks_istore_n dX10_allValues_3 (by decide) rfl ?_
  refine ks_sub [(3, _), (0, _), (1, _)] rfl ?_
  exact ks_sub [(3, _), (1, _), (0, _)] rfl (loop m 0 (by omega))
def none_ (g : Nat → Nat) (a : Nat) : Prop := (∀ j, j < 32 → g (a + j) = 0) ∧ ks_num g (a + 32) 4 = 4294967295
def MOST_ : Nat := 2100000000000000
set_option maxRecDepth 100000 in
set_option maxHeartbeats 40000000 in
theorem c_tv_isNone {l : Launch} {G : ks_G} {d : Nat} {S : ks_S} {y N L b k p m u e : Nat} {g : Nat → Nat} (hV : tv_ok S y g L b k p m u e) (hy : S.2.2 y = some (kB N g)) (hg : kO g) (hL : L ≤ N) (hN : N < 2 ^ 18) {i : Nat} (hi : i < k) : ks_P l G yX10_isNone mX10_isNone (d + 1) [.ref 20, .int (nI i)] S (fun z S' => ∃ t, z = some (.int (ks_bo t)) ∧ S' = S ∧ (t = true ↔ none_ g (iA g L p i))) := by
  obtain ⟨fA, fS, fZ, hA, hS, hZ, h21, h22, h23, h24, h25, h26, hI, hU⟩ := tv_get hV
  have hb9 := tx_bd hV.2.1
  obtain ⟨e1, e2, e3⟩ := hI i hi
  obtain ⟨-, -, -, q1, q2, -⟩ := tx_in hV.2.1 i hi
  rw [← e1]
  rw [← e1] at q1
  have loop : ∀ c j, j + c = 32 → ∀ x : Int32, (x = 0 ↔ ∀ q, q < j → g (fA i + q) = 0) → ks_X l G mX10_isNone (d + 1) 4 [(3, .int (nI j)), (2, .int x), (0, .ref 20), (1, .int (nI i))] [] S (fun z S' => ∃ t, z = some (.int (ks_bo t)) ∧ S' = S ∧ (t = true ↔ none_ g (fA i))) := by
    intro c
    induction c with
    | zero =>
      intro j hj x hx
      refine ks_iload_n dX10_isNone_4 rfl rfl ?_
      refine ks_bipush (x := nI 32) dX10_isNone_5 (by decide) rfl ?_
      refine ks_icmp_geN (tgt := 32) (by omega) (by decide) dX10_isNone_7 (by decide) rfl (fun hc => ?_) (fun hc => ?_)
      · obtain rfl : j = 32 := by omega
        refine ks_iload_n dX10_isNone_32 rfl rfl ?_
        refine ks_if_ne (tgt := 64) dX10_isNone_33 (by decide) rfl (fun hc33 => ?_) (fun hc33 => ?_)
        · refine ks_iconst (x := nI 0) dX10_isNone_64 (by decide) rfl ?_
          refine ks_zret rfl rfl dX10_isNone_65 ?_
          first | exact ⟨false, rfl, rfl, (fun h => by cases h), fun h => absurd (hx.mpr h.1) hc33⟩ | exact ⟨false, rfl, rfl, (fun h => by cases h), fun h => absurd h.2 hc56⟩
        · refine ks_aload_n dX10_isNone_36 rfl rfl ?_
          refine ks_getf (T := TX10) (kf := 0) kx_554 rfl in_X10 cl_X10 (by decide) hV.1 rfl dX10_isNone_37 rfl ?_
          refine ks_aload_n dX10_isNone_40 rfl rfl ?_
          refine ks_getf (T := TX10) (kf := 3) kx_561 rfl in_X10 cl_X10 (by decide) hV.1 rfl dX10_isNone_41 rfl ?_
          refine ks_iload_n dX10_isNone_44 rfl rfl ?_
          refine ks_ialdN (i := i) h21 rfl (by omega) (by decide) dX10_isNone_45 rfl ?_
          refine ks_bipush (x := nI 32) dX10_isNone_46 (by decide) rfl ?_
          refine ks_addN dX10_isNone_48 rfl ?_
          refine ks_iconst (x := nI 4) dX10_isNone_49 (by decide) rfl ?_
          refine ks_callS (n := 3) (M' := mX1_number) (c_Buffer_number (d := d) (i := fA i + 32) (sz := 4) hy hg (by omega) (by omega) (by decide)) kx_997 kx_998 kx_2 kx_999 (by decide +kernel) rfl (by decide) (Nat.le_of_ble_eq_true rfl) rfl dX10_isNone_50 rfl (fun r1 S1 h1 => ?_)
          obtain ⟨rfl, rfl⟩ := h1
          have hn4 : ks_num g (fA i + 32) 4 < 2 ^ 32 := ks_num_lt hg 4 _
          refine ks_ldc2 dX10_isNone_53 kx_1466 rfl ?_
          refine ks_tl (y := lN 4294967295) rfl ?_
          refine ks_lif_neN (tgt := 64) (by omega) (by decide) dX10_isNone_56 rfl dX10_isNone_57 (by decide) rfl (fun hc56 => ?_) (fun hc56 => ?_)
          · refine ks_iconst (x := nI 0) dX10_isNone_64 (by decide) rfl ?_
            refine ks_zret rfl rfl dX10_isNone_65 ?_
            first | exact ⟨false, rfl, rfl, (fun h => by cases h), fun h => absurd (hx.mpr h.1) hc33⟩ | exact ⟨false, rfl, rfl, (fun h => by cases h), fun h => absurd h.2 hc56⟩
          · refine ks_iconst (x := nI 1) dX10_isNone_60 (by decide) rfl ?_
            refine ks_goto (tgt := 65) dX10_isNone_61 (by decide) ?_
            refine ks_zret rfl rfl dX10_isNone_65 ?_
            exact ⟨true, rfl, rfl, fun _ => ⟨hx.mp hc33, hc56⟩, fun _ => rfl⟩
      · exact absurd (show 32 ≤ j by omega) hc
    | succ c ih =>
      intro j hj x hx
      refine ks_iload_n dX10_isNone_4 rfl rfl ?_
      refine ks_bipush (x := nI 32) dX10_isNone_5 (by decide) rfl ?_
      refine ks_icmp_geN (tgt := 32) (by omega) (by decide) dX10_isNone_7 (by decide) rfl (fun hc => ?_) (fun hc => ?_)
      · exact absurd hc (by omega)
      · refine ks_iload_n dX10_isNone_10 rfl rfl ?_
        refine ks_aload_n dX10_isNone_11 rfl rfl ?_
        refine ks_getf (T := TX10) (kf := 0) kx_554 rfl in_X10 cl_X10 (by decide) hV.1 rfl dX10_isNone_12 rfl ?_
        refine ks_aload_n dX10_isNone_15 rfl rfl ?_
        refine ks_getf (T := TX10) (kf := 3) kx_561 rfl in_X10 cl_X10 (by decide) hV.1 rfl dX10_isNone_16 rfl ?_
        refine ks_iload_n dX10_isNone_19 rfl rfl ?_
        refine ks_ialdN (i := i) h21 rfl (by omega) (by decide) dX10_isNone_20 rfl ?_
        refine ks_iload_n dX10_isNone_21 rfl rfl ?_
        refine ks_addN dX10_isNone_22 rfl ?_
        refine ks_baldB (i := fA i + j) hy rfl (by omega) (by omega) dX10_isNone_23 rfl ?_
        refine ks_ior dX10_isNone_24 rfl ?_
        refine ks_istore_n dX10_isNone_25 (by decide) rfl ?_
        refine ks_sub [(2, _), (3, _), (0, _), (1, _)] rfl ?_
        refine ks_incN (c := 1) (e := j + 1) dX10_isNone_26 rfl (by decide) rfl (by decide) rfl ?_
        refine ks_sub [(3, _), (2, _), (0, _), (1, _)] rfl ?_
        refine ks_goto (tgt := 4) dX10_isNone_29 (by decide) ?_
        refine ks_sub [(3, _), (2, _), (0, _), (1, _)] rfl (ih (j + 1) (by omega) _ ?_)
        show _ ||| sb_b _ = 0 ↔ _
        rw [tk_or (hg _), hx]
        constructor
        · rintro ⟨a1, a2⟩ q hq
          rcases Nat.lt_succ_iff_lt_or_eq.mp hq with h | h
          · exact a1 q h
          · rw [h]; exact a2
        · intro a1
          exact ⟨fun q hq => a1 q (by omega), a1 j (by omega)⟩
  refine ks_of (by decide) rfl rfl (Nat.le_of_ble_eq_true rfl) ?_
  show ks_X l G mX10_isNone (d + 1) 0 [(0, .ref 20), (1, .int (nI i))] [] S _
  refine ks_iconst (x := nI 0) dX10_isNone_0 (by decide) rfl ?_
  refine ks_istore_n dX10_isNone_1 (by decide) rfl ?_
  refine ks_sub [(2, _), (0, _), (1, _)] rfl ?_
  refine ks_iconst (x := nI 0) dX10_isNone_2 (by decide) rfl ?_
  refine ks_istore_n dX10_isNone_3 (by decide) rfl ?_
  refine ks_sub [(3, _), (0, _), (1, _), (2, _)] rfl ?_
  exact ks_sub [(3, _), (2, _), (0, _), (1, _)] rfl (loop 32 0 rfl 0 ⟨fun _ q hq => absurd hq (Nat.not_lt_zero q), fun _ => rfl⟩)
set_option maxRecDepth 100000 in
set_option maxHeartbeats 40000000 in
theorem c_tv_isTakenBefore {l : Launch} {G : ks_G} {d : Nat} {S : ks_S} {y N L b k p m u e : Nat} {g : Nat → Nat} (hV : tv_ok S y g L b k p m u e) (hy : S.2.2 y = some (kB N g)) (hg : kO g) (hL : L ≤ N) (hN : N < 2 ^ 18) {i : Nat} (hi : i < k) : ks_P l G yX10_isTakenBefore mX10_isTakenBefore d [.ref 20, .int (nI i)] S (fun z S' => ∃ t, z = some (.int (ks_bo t)) ∧ S' = S ∧ (t = true ↔ ∃ j, j < i ∧ ∀ q, q < 36 → g (iA g L p j + q) = g (iA g L p i + q))) := by
  obtain ⟨fA, fS, fZ, hA, hS, hZ, h21, h22, h23, h24, h25, h26, hI, hU⟩ := tv_get hV
  have hb9 := tx_bd hV.2.1
  have fk : ∀ j, j < k → fA j + 37 < L := fun j hj => by
    obtain ⟨e1, -, -⟩ := hI j hj
    obtain ⟨-, -, -, q1, q2, -⟩ := tx_in hV.2.1 j hj
    omega
  have kki := fk i hi
  have e0 : (∃ j, j < i ∧ ∀ q, q < 36 → g (iA g L p j + q) = g (iA g L p i + q)) ↔ ∃ j, j < i ∧ ∀ q, q < 36 → g (fA j + q) = g (fA i + q) := by
    rw [(hI i hi).1]
    constructor
    · rintro ⟨j, h1, h2⟩
      exact ⟨j, h1, fun q hq => by rw [(hI j (by omega)).1]; exact h2 q hq⟩
    · rintro ⟨j, h1, h2⟩
      exact ⟨j, h1, fun q hq => by rw [← (hI j (by omega)).1]; exact h2 q hq⟩
  have out1 : ∀ c j, j + c = i → (∀ z, z < j → ¬ ∀ q, q < 36 → g (fA z + q) = g (fA i + q)) → ks_X l G mX10_isTakenBefore d 2 [(2, .int (nI j)), (0, .ref 20), (1, .int (nI i))] [] S (fun z S' => ∃ t, z = some (.int (ks_bo t)) ∧ S' = S ∧ (t = true ↔ ∃ j, j < i ∧ ∀ q, q < 36 → g (iA g L p j + q) = g (iA g L p i + q))) := by
    intro c
    induction c with
    | zero =>
      intro j hj hz
      refine ks_iload_n dX10_isTakenBefore_2 rfl rfl ?_
      refine ks_iload_n dX10_isTakenBefore_3 rfl rfl ?_
      refine ks_icmp_geN (tgt := 64) (by omega) (by omega) dX10_isTakenBefore_4 (by decide) rfl (fun hc => ?_) (fun hc => ?_)
      · refine ks_iconst (x := nI 0) dX10_isTakenBefore_64 (by decide) rfl ?_
        refine ks_zret rfl rfl dX10_isTakenBefore_65 ?_
        obtain rfl : j = i := by omega
        exact ⟨false, rfl, rfl, (fun h => by cases h), fun h => by
          obtain ⟨z, h1, h2⟩ := e0.mp h
          exact absurd h2 (hz z h1)⟩
      · exact absurd (show i ≤ j by omega) hc
    | succ c ih =>
      intro j hj hz
      refine ks_iload_n dX10_isTakenBefore_2 rfl rfl ?_
      refine ks_iload_n dX10_isTakenBefore_3 rfl rfl ?_
      refine ks_icmp_geN (tgt := 64) (by omega) (by omega) dX10_isTakenBefore_4 (by decide) rfl (fun hc => ?_) (fun hc => ?_)
      · exact absurd hc (by omega)
      · have kkj := fk j (by omega)
        have inn : ∀ c2 q, q + c2 = 36 → (∀ z, z < q → g (fA j + z) = g (fA i + z)) → ks_X l G mX10_isTakenBefore d 9 [(3, .int (nI q)), (2, .int (nI j)), (0, .ref 20), (1, .int (nI i))] [] S (fun z S' => ∃ t, z = some (.int (ks_bo t)) ∧ S' = S ∧ (t = true ↔ ∃ j, j < i ∧ ∀ q, q < 36 → g (iA g L p j + q) = g (iA g L p i + q))) := by
          intro c2
          induction c2 with
          | zero =>
            intro q hq hz2
            refine ks_iload_n dX10_isTakenBefore_9 rfl rfl ?_
            refine ks_bipush (x := nI 36) dX10_isTakenBefore_10 (by decide) rfl ?_
            refine ks_icmp_geN (tgt := 50) (by omega) (by decide) dX10_isTakenBefore_12 (by decide) rfl (fun hc => ?_) (fun hc => ?_)
            · obtain rfl : q = 36 := by omega
              refine ks_iload_n dX10_isTakenBefore_50 rfl rfl ?_
              refine ks_bipush (x := nI 36) dX10_isTakenBefore_51 (by decide) rfl ?_
              refine ks_icmp_neN (tgt := 58) (by decide) (by decide) dX10_isTakenBefore_53 (by decide) rfl (fun hd => ?_) (fun hd => ?_)
              · exact absurd hd (by decide)
              · refine ks_iconst (x := nI 1) dX10_isTakenBefore_56 (by decide) rfl ?_
                refine ks_zret rfl rfl dX10_isTakenBefore_57 ?_
                exact ⟨true, rfl, rfl, fun _ => e0.mpr ⟨j, by omega, hz2⟩, fun _ => rfl⟩
            · exact absurd (show 36 ≤ q by omega) hc
          | succ c2 ih2 =>
            intro q hq hz2
            refine ks_iload_n dX10_isTakenBefore_9 rfl rfl ?_
            refine ks_bipush (x := nI 36) dX10_isTakenBefore_10 (by decide) rfl ?_
            refine ks_icmp_geN (tgt := 50) (by omega) (by decide) dX10_isTakenBefore_12 (by decide) rfl (fun hc => ?_) (fun hc => ?_)
            · exact absurd hc (by omega)
            · refine ks_aload_n dX10_isTakenBefore_15 rfl rfl ?_
              refine ks_getf (T := TX10) (kf := 0) kx_554 rfl in_X10 cl_X10 (by decide) hV.1 rfl dX10_isTakenBefore_16 rfl ?_
              refine ks_aload_n dX10_isTakenBefore_19 rfl rfl ?_
              refine ks_getf (T := TX10) (kf := 3) kx_561 rfl in_X10 cl_X10 (by decide) hV.1 rfl dX10_isTakenBefore_20 rfl ?_
              refine ks_iload_n dX10_isTakenBefore_23 rfl rfl ?_
              refine ks_ialdN (i := j) h21 rfl (by omega) (by decide) dX10_isTakenBefore_24 rfl ?_
              refine ks_iload_n dX10_isTakenBefore_25 rfl rfl ?_
              refine ks_addN dX10_isTakenBefore_26 rfl ?_
              refine ks_baldB (i := fA j + q) hy rfl (by omega) (by omega) dX10_isTakenBefore_27 rfl ?_
              refine ks_aload_n dX10_isTakenBefore_28 rfl rfl ?_
              refine ks_getf (T := TX10) (kf := 0) kx_554 rfl in_X10 cl_X10 (by decide) hV.1 rfl dX10_isTakenBefore_29 rfl ?_
              refine ks_aload_n dX10_isTakenBefore_32 rfl rfl ?_
              refine ks_getf (T := TX10) (kf := 3) kx_561 rfl in_X10 cl_X10 (by decide) hV.1 rfl dX10_isTakenBefore_33 rfl ?_
              refine ks_iload_n dX10_isTakenBefore_36 rfl rfl ?_
              refine ks_ialdN (i := i) h21 rfl (by omega) (by decide) dX10_isTakenBefore_37 rfl ?_
              refine ks_iload_n dX10_isTakenBefore_38 rfl rfl ?_
              refine ks_addN dX10_isTakenBefore_39 rfl ?_
              refine ks_baldB (i := fA i + q) hy rfl (by omega) (by omega) dX10_isTakenBefore_40 rfl ?_
              refine ks_icmp_neY (tgt := 50) (hg _) (hg _) dX10_isTakenBefore_41 (by decide) rfl (fun hd => ?_) (fun hd => ?_)
              · refine ks_iload_n dX10_isTakenBefore_50 rfl rfl ?_
                refine ks_bipush (x := nI 36) dX10_isTakenBefore_51 (by decide) rfl ?_
                refine ks_icmp_neN (tgt := 58) (by omega) (by decide) dX10_isTakenBefore_53 (by decide) rfl (fun hf => ?_) (fun hf => ?_)
                · refine ks_incN (c := 1) (e := j + 1) dX10_isTakenBefore_58 rfl (by decide) rfl (by decide) rfl ?_
                  refine ks_sub [(2, _), (3, _), (0, _), (1, _)] rfl ?_
                  refine ks_goto (tgt := 2) dX10_isTakenBefore_61 (by decide) ?_
                  refine ks_sub [(2, _), (0, _), (1, _)] rfl ?_
                  exact ks_sub [(2, _), (0, _), (1, _)] rfl (ih (j + 1) (by omega) (fun z hz1 h9 => by
                    rcases Nat.lt_succ_iff_lt_or_eq.mp hz1 with h | h
                    · exact hz z h h9
                    · rw [h] at h9; exact hd (h9 q (by omega))))
                · exact absurd hf (by omega)
              · refine ks_incN (c := 1) (e := q + 1) dX10_isTakenBefore_44 rfl (by decide) rfl (by decide) rfl ?_
                refine ks_sub [(3, _), (2, _), (0, _), (1, _)] rfl ?_
                refine ks_goto (tgt := 9) dX10_isTakenBefore_47 (by decide) ?_
                exact ks_sub [(3, _), (2, _), (0, _), (1, _)] rfl (ih2 (q + 1) (by omega) (fun z hz1 => by
                  rcases Nat.lt_succ_iff_lt_or_eq.mp hz1 with h | h
                  · exact hz2 z h
                  · rw [h]; exact hd))
        refine ks_iconst (x := nI 0) dX10_isTakenBefore_7 (by decide) rfl ?_
        refine ks_istore_n dX10_isTakenBefore_8 (by decide) rfl ?_
        refine ks_sub [(3, _), (2, _), (0, _), (1, _)] rfl ?_
        exact ks_sub [(3, _), (2, _), (0, _), (1, _)] rfl (inn 36 0 rfl (fun z hz1 => absurd hz1 (Nat.not_lt_zero z)))
  refine ks_of (by decide) rfl rfl (Nat.le_of_ble_eq_true rfl) ?_
  show ks_X l G mX10_isTakenBefore d 0 [(0, .ref 20), (1, .int (nI i))] [] S _
  refine ks_iconst (x := nI 0) dX10_isTakenBefore_0 (by decide) rfl ?_
  refine ks_istore_n dX10_isTakenBefore_1 (by decide) rfl ?_
  refine ks_sub [(2, _), (0, _), (1, _)] rfl ?_
  exact ks_sub [(2, _), (0, _), (1, _)] rfl (out1 i 0 (by omega) (fun z hz1 => absurd hz1 (Nat.not_lt_zero z)))
