/-! RING: copies, comparisons, sums modulo -/
theorem orI_z {x y : Int32} : x ||| y = 0 ↔ x = 0 ∧ y = 0 := by
  constructor
  · intro h
    have h2 : x.toBitVec ||| y.toBitVec = 0#32 := congrArg Int32.toBitVec h
    rw [BitVec.or_eq_zero_iff] at h2
    exact ⟨Int32.toBitVec_inj.mp h2.1, Int32.toBitVec_inj.mp h2.2⟩
  · rintro ⟨rfl, rfl⟩
    rfl
theorem nI_eq32 {a b : Nat} (ha : a < 4294967296) (hb : b < 4294967296) : nI a = nI b ↔ a = b := by
  constructor
  · intro h
    have h6 : (BitVec.ofNat 32 a).toNat = (BitVec.ofNat 32 b).toNat := congrArg (fun x : Int32 => x.toBitVec.toNat) h
    rw [BitVec.toNat_ofNat, BitVec.toNat_ofNat] at h6
    omega
  · rintro rfl; rfl
def cmpN (A B : Nat) : Int32 := if A < B then -1 else if A = B then nI 0 else nI 1
/-- a ring's object -/
abbrev rgO (o : Nat) (mn : Int32) : ks_E := .inr (18, [.ref (o + 1), .int mn, .ref (o + 2), .ref (o + 3), .ref (o + 4), .ref (o + 5), .ref (o + 6), .ref (o + 7)])
set_option maxRecDepth 100000 in
set_option maxHeartbeats 800000 in
theorem c_rg_copy {l : Launch} {G : ks_G} {d : Nat} {S : ks_S} {a t A T : Nat} (hA : wA S a A) (hT : wA S t T) (ht9 : t < ks_B) : ks_P l G yX15_copy mX15_copy d [.ref a, .ref t] S (fun z S' => z = none ∧ ks_up S S' [t] ∧ wA S' t A) := by
  obtain ⟨ga, ea, ba, rfl⟩ := hA
  obtain ⟨gt, et, bt, rfl⟩ := hT
  have loop : ∀ (u i : Nat) (S1 : ks_S) (g1 : Nat → Nat), i + u = 8 → ks_up S S1 [t] → S1.2.2 t = some (kN 8 g1) → (∀ j, j < 8 → g1 j < 4294967296) → (∀ j, i ≤ j → j < 8 → g1 j = gt j) → (∀ j, j < i → g1 j = ga j) → ks_X l G mX15_copy d 2 [(0, .ref a), (1, .ref t), (2, .int (nI i))] [] S1 (fun z S' => z = none ∧ ks_up S S' [t] ∧ wA S' t (dg 4294967296 ga 8)) := by
    intro u
    induction u with
    | zero =>
      intro i S1 g1 hi hu e1 b1 hk hl
      obtain rfl : i = 8 := hi
      refine ks_iload_n dX15_copy_2 rfl rfl ?_
      refine ks_bipush (x := nI 8) dX15_copy_3 (by decide) rfl ?_
      refine ks_icmp_geN (tgt := 20) (by decide) (by decide) dX15_copy_5 (by decide) rfl (fun _ => ?_) (fun h => absurd h (by decide))
      refine ks_ret rfl dX15_copy_20 ?_
      exact ⟨rfl, hu, g1, e1, b1, dg_congr hl⟩
    | succ u ih =>
      intro i S1 g1 hi hu e1 b1 hk hl
      have i8 : i < 8 := by omega
      obtain ⟨gA, eA, vA⟩ := rdW ea ba et bt e1 hu i8 (hk i (Nat.le_refl _) i8)
      have qa := ba i i8
      refine ks_iload_n dX15_copy_2 rfl rfl ?_
      refine ks_bipush (x := nI 8) dX15_copy_3 (by decide) rfl ?_
      refine ks_icmp_geN (tgt := 20) (by omega) (by decide) dX15_copy_5 (by decide) rfl (fun h1 => absurd h1 (by omega)) (fun h1 => ?_)
      refine ks_aload_n dX15_copy_8 rfl rfl ?_
      refine ks_iload_n dX15_copy_9 rfl rfl ?_
      refine ks_aload_n dX15_copy_10 rfl rfl ?_
      refine ks_iload_n dX15_copy_11 rfl rfl ?_
      refine ks_ialdN (i := i) eA rfl (by omega) (by decide) dX15_copy_12 rfl ?_
      rw [vA]
      refine ks_iastNN (i := i) (v := ga i) ht9 e1 (by omega) (by decide) dX15_copy_13 rfl ?_
      refine ks_incN (c := 1) (e := i + 1) dX15_copy_14 rfl (by decide) rfl (by decide) rfl ?_
      refine ks_sub [(2, _), (0, _), (1, _)] rfl ?_
      refine ks_goto (tgt := 2) dX15_copy_17 (by decide) ?_
      refine ks_sub [(0, _), (1, _), (2, _)] rfl (ih (i + 1) _ (va_up g1 i (ga i)) (by omega) (hu.trans (ks_up_set _ _ (List.mem_singleton.mpr rfl))) (ks_set_same _ _ _) (fun j hj => ?_) (fun j h1 h2 => ?_) (fun j hj => ?_))
      · by_cases e : j = i
        · subst e; rw [va_up_self]; exact qa
        · rw [va_up_ne _ _ e]; exact b1 j hj
      · rw [va_up_ne _ _ (by omega)]; exact hk j (by omega) h2
      · by_cases e : j = i
        · subst e; exact va_up_self _ _ _
        · rw [va_up_ne _ _ e]; exact hl j (by omega)
  refine ks_of (by decide) rfl rfl (Nat.le_of_ble_eq_true rfl) ?_
  show ks_X l G mX15_copy d 0 [(0, .ref a), (1, .ref t)] [] S _
  refine ks_iconst (x := nI 0) dX15_copy_0 (by decide) rfl ?_
  refine ks_istore_n dX15_copy_1 (by decide) rfl ?_
  refine ks_sub [(2, _), (0, _), (1, _)] rfl ?_
  exact ks_sub [(0, _), (1, _), (2, _)] rfl (loop 8 0 S gt rfl (ks_up.rf _ _) et bt (fun j _ _ => rfl) (fun j hj => absurd hj (Nat.not_lt_zero j)))
set_option maxRecDepth 100000 in
set_option maxHeartbeats 800000 in
theorem c_rg_isZero {l : Launch} {G : ks_G} {d : Nat} {S : ks_S} {a A : Nat} (hA : wA S a A) (ha9 : a < ks_B) : ks_P l G yX15_isZero mX15_isZero d [.ref a] S (fun z S' => z = some (.int (ks_bo (decide (A = 0)))) ∧ S' = S) := by
  obtain ⟨ga, ea, ba, rfl⟩ := hA
  have loop : ∀ (u i : Nat) (x : Int32), i + u = 8 → (x = 0 ↔ ∀ j, j < i → ga j = 0) → ks_X l G mX15_isZero d 4 [(0, .ref a), (1, .int x), (2, .int (nI i))] [] S (fun z S' => z = some (.int (ks_bo (decide (dg 4294967296 ga 8 = 0)))) ∧ S' = S) := by
    intro u
    induction u with
    | zero =>
      intro i x hi hx
      obtain rfl : i = 8 := hi
      refine ks_iload_n dX15_isZero_4 rfl rfl ?_
      refine ks_bipush (x := nI 8) dX15_isZero_5 (by decide) rfl ?_
      refine ks_icmp_geN (tgt := 22) (by decide) (by decide) dX15_isZero_7 (by decide) rfl (fun _ => ?_) (fun h => absurd h (by decide))
      refine ks_iload_n dX15_isZero_22 rfl rfl ?_
      refine ks_if_ne (tgt := 30) dX15_isZero_23 (by decide) rfl (fun h1 => ?_) (fun h1 => ?_)
      · refine ks_iconst (x := nI 0) dX15_isZero_30 (by decide) rfl ?_
        refine ks_zret rfl rfl dX15_isZero_31 ?_
        rw [decide_eq_false (fun h => h1 (hx.mpr (dg_z (by decide) h)))]
        exact ⟨rfl, rfl⟩
      · refine ks_iconst (x := nI 1) dX15_isZero_26 (by decide) rfl ?_
        refine ks_goto (tgt := 31) dX15_isZero_27 (by decide) ?_
        refine ks_zret rfl rfl dX15_isZero_31 ?_
        rw [decide_eq_true (dg_0 (hx.mp h1))]
        exact ⟨rfl, rfl⟩
    | succ u ih =>
      intro i x hi hx
      have i8 : i < 8 := by omega
      have qa := ba i i8
      refine ks_iload_n dX15_isZero_4 rfl rfl ?_
      refine ks_bipush (x := nI 8) dX15_isZero_5 (by decide) rfl ?_
      refine ks_icmp_geN (tgt := 22) (by omega) (by decide) dX15_isZero_7 (by decide) rfl (fun h1 => absurd h1 (by omega)) (fun h1 => ?_)
      refine ks_iload_n dX15_isZero_10 rfl rfl ?_
      refine ks_aload_n dX15_isZero_11 rfl rfl ?_
      refine ks_iload_n dX15_isZero_12 rfl rfl ?_
      refine ks_ialdN (i := i) ea rfl (by omega) (by decide) dX15_isZero_13 rfl ?_
      refine ks_ior dX15_isZero_14 rfl ?_
      refine ks_istore_n dX15_isZero_15 (by decide) rfl ?_
      refine ks_sub [(1, _), (0, _), (2, _)] rfl ?_
      refine ks_incN (c := 1) (e := i + 1) dX15_isZero_16 rfl (by decide) rfl (by decide) rfl ?_
      refine ks_sub [(2, _), (0, _), (1, _)] rfl ?_
      refine ks_goto (tgt := 4) dX15_isZero_19 (by decide) ?_
      refine ks_sub [(0, _), (1, _), (2, _)] rfl (ih (i + 1) _ (by omega) ?_)
      rw [orI_z, hx, show (nI (ga i) = 0 ↔ ga i = 0) from nI_eq32 (b := 0) qa (by decide)]
      constructor
      · rintro ⟨h1, h2⟩ j hj
        by_cases e : j = i
        · subst e; exact h2
        · exact h1 j (by omega)
      · intro h
        exact ⟨fun j hj => h j (by omega), h i (by omega)⟩
  refine ks_of (by decide) rfl rfl (Nat.le_of_ble_eq_true rfl) ?_
  show ks_X l G mX15_isZero d 0 [(0, .ref a)] [] S _
  refine ks_iconst (x := nI 0) dX15_isZero_0 (by decide) rfl ?_
  refine ks_istore_n dX15_isZero_1 (by decide) rfl ?_
  refine ks_sub [(1, _), (0, _)] rfl ?_
  refine ks_iconst (x := nI 0) dX15_isZero_2 (by decide) rfl ?_
  refine ks_istore_n dX15_isZero_3 (by decide) rfl ?_
  refine ks_sub [(2, _), (0, _), (1, _)] rfl ?_
  exact ks_sub [(0, _), (1, _), (2, _)] rfl (loop 8 0 (nI 0) rfl ⟨fun _ j hj => absurd hj (Nat.not_lt_zero j), fun _ => rfl⟩)
set_option maxRecDepth 100000 in
set_option maxHeartbeats 800000 in
theorem c_rg_compare {l : Launch} {G : ks_G} {d : Nat} {S : ks_S} {a b A B : Nat} (hA : wA S a A) (hB : wA S b B) (ha9 : a < ks_B) (hb9 : b < ks_B) : ks_P l G yX15_compare mX15_compare d [.ref a, .ref b] S (fun z S' => z = some (.int (cmpN A B)) ∧ S' = S) := by
  obtain ⟨ga, ea, ba, rfl⟩ := hA
  obtain ⟨gb, eb, bb, rfl⟩ := hB
  have loop : ∀ (u : Nat), u ≤ 8 → (∀ j, u ≤ j → j < 8 → ga j = gb j) → ks_X l G mX15_compare d 3 [(0, .ref a), (1, .ref b), (2, .int (nI u - 1))] [] S (fun z S' => z = some (.int (cmpN (dg 4294967296 ga 8) (dg 4294967296 gb 8))) ∧ S' = S) := by
    intro u
    induction u with
    | zero =>
      intro hu he
      refine ks_iload_n dX15_compare_3 rfl rfl ?_
      refine ks_if_ltD (tgt := 48) (by omega) dX15_compare_4 (by decide) rfl (fun h1 => ?_) (fun h1 => absurd h1 (by omega))
      refine ks_iconst (x := nI 0) dX15_compare_48 (by decide) rfl ?_
      refine ks_iret rfl dX15_compare_49 ?_
      unfold cmpN
      rw [dg_congr (fun k hk => he k (Nat.zero_le _) hk), if_neg (Nat.lt_irrefl _), if_pos rfl]
      exact ⟨rfl, rfl⟩
    | succ u ih =>
      intro hu he
      have u8 : u < 8 := by omega
      have qa := ba u u8
      have qb := bb u u8
      rw [nI_D (by omega : 0 < u + 1), Nat.add_sub_cancel]
      refine ks_iload_n dX15_compare_3 rfl rfl ?_
      refine ks_if_ltN (tgt := 48) (by omega) dX15_compare_4 (by decide) rfl ?_
      refine ks_aload_n dX15_compare_7 rfl rfl ?_
      refine ks_iload_n dX15_compare_8 rfl rfl ?_
      refine ks_ialdN (i := u) ea rfl (by omega) (by decide) dX15_compare_9 rfl ?_
      refine ks_aload_n dX15_compare_10 rfl rfl ?_
      refine ks_iload_n dX15_compare_11 rfl rfl ?_
      refine ks_ialdN (i := u) eb rfl (by omega) (by decide) dX15_compare_12 rfl ?_
      refine ks_icmp_eq (tgt := 42) dX15_compare_13 (by decide) rfl (fun h2 => ?_) (fun h2 => ?_)
      · have h3 := (nI_eq32 qa qb).mp h2
        refine ks_incD dX15_compare_42 rfl (by decide) (by decide) rfl ?_
        refine ks_sub [(2, _), (0, _), (1, _)] rfl ?_
        refine ks_goto (tgt := 3) dX15_compare_45 (by decide) ?_
        refine ks_sub [(0, _), (1, _), (2, _)] rfl (ih (by omega) (fun j h1 h2 => ?_))
        by_cases e : j = u
        · subst e; exact h3
        · exact he j (by omega) h2
      · have h3 : ga u ≠ gb u := fun h => h2 ((nI_eq32 qa qb).mpr h)
        refine ks_aload_n dX15_compare_16 rfl rfl ?_
        refine ks_iload_n dX15_compare_17 rfl rfl ?_
        refine ks_ialdN (i := u) ea rfl (by omega) (by decide) dX15_compare_18 rfl ?_
        refine ks_i2l dX15_compare_19 rfl ?_
        refine ks_ldc2 dX15_compare_20 kx_1868 rfl ?_
        refine ks_land dX15_compare_23 rfl ?_
        refine ks_tl (y := lN (ga u)) (low_l (by omega)) ?_
        refine ks_aload_n dX15_compare_24 rfl rfl ?_
        refine ks_iload_n dX15_compare_25 rfl rfl ?_
        refine ks_ialdN (i := u) eb rfl (by omega) (by decide) dX15_compare_26 rfl ?_
        refine ks_i2l dX15_compare_27 rfl ?_
        refine ks_ldc2 dX15_compare_28 kx_1868 rfl ?_
        refine ks_land dX15_compare_31 rfl ?_
        refine ks_tl (y := lN (gb u)) (low_l (by omega)) ?_
        refine ks_lif_geN (tgt := 40) (by omega) (by omega) dX15_compare_32 rfl dX15_compare_33 (by decide) rfl (fun h4 => ?_) (fun h4 => ?_)
        · refine ks_iconst (x := nI 1) dX15_compare_40 (by decide) rfl ?_
          refine ks_iret rfl dX15_compare_41 ?_
          have q := dg_cmp (f := gb) (g := ga) u8 (fun k h1 h2 => (he k (by omega) h2).symm) (fun k hk => bb k (by omega)) (by omega)
          unfold cmpN
          rw [if_neg (by omega), if_neg (by omega)]
          exact ⟨rfl, rfl⟩
        · refine ks_iconst (x := (-1)) dX15_compare_36 (by decide) rfl ?_
          refine ks_goto (tgt := 41) dX15_compare_37 (by decide) ?_
          refine ks_iret rfl dX15_compare_41 ?_
          have q := dg_cmp (f := ga) (g := gb) u8 (fun k h1 h2 => he k (by omega) h2) (fun k hk => ba k (by omega)) (by omega)
          unfold cmpN
          rw [if_pos q]
          exact ⟨rfl, rfl⟩
  refine ks_of (by decide) rfl rfl (Nat.le_of_ble_eq_true rfl) ?_
  show ks_X l G mX15_compare d 0 [(0, .ref a), (1, .ref b)] [] S _
  refine ks_bipush (x := nI 7) dX15_compare_0 (by decide) rfl ?_
  refine ks_ti (y := nI 8 - 1) (by decide) ?_
  refine ks_istore_n dX15_compare_2 (by decide) rfl ?_
  refine ks_sub [(2, _), (0, _), (1, _)] rfl ?_
  exact ks_sub [(0, _), (1, _), (2, _)] rfl (loop 8 (by decide) (fun j h1 h2 => by omega))
set_option maxRecDepth 100000 in
set_option maxHeartbeats 800000 in
theorem c_rg_same {l : Launch} {G : ks_G} {d : Nat} {S : ks_S} {a b A B : Nat} (hA : wA S a A) (hB : wA S b B) (ha9 : a < ks_B) (hb9 : b < ks_B) : ks_P l G yX15_same mX15_same (d + 1) [.ref a, .ref b] S (fun z S' => z = some (.int (ks_bo (decide (A = B)))) ∧ S' = S) := by
  refine ks_of (by decide) rfl rfl (Nat.le_of_ble_eq_true rfl) ?_
  show ks_X l G mX15_same (d + 1) 0 [(0, .ref a), (1, .ref b)] [] S _
  refine ks_aload_n dX15_same_0 rfl rfl ?_
  refine ks_aload_n dX15_same_1 rfl rfl ?_
  refine ks_callS (n := 2) (M' := mX15_compare) (c_rg_compare (d := d) hA hB ha9 hb9) kx_1869 kx_1870 kx_33 kx_1871 (by decide +kernel) rfl (by decide) (Nat.le_of_ble_eq_true rfl) rfl dX15_same_2 rfl (fun z1 T1 y1 => ?_)
  obtain ⟨rfl, hT1⟩ := y1
  obtain rfl := hT1.symm
  refine ks_if_ne (tgt := 12) dX15_same_5 (by decide) rfl (fun h1 => ?_) (fun h1 => ?_)
  · refine ks_iconst (x := nI 0) dX15_same_12 (by decide) rfl ?_
    refine ks_zret rfl rfl dX15_same_13 ?_
    rw [decide_eq_false (fun h => h1 (by unfold cmpN; rw [if_neg (by omega), if_pos h]; rfl))]
    exact ⟨rfl, rfl⟩
  · refine ks_iconst (x := nI 1) dX15_same_8 (by decide) rfl ?_
    refine ks_goto (tgt := 13) dX15_same_9 (by decide) ?_
    refine ks_zret rfl rfl dX15_same_13 ?_
    have h2 := h1
    have h3 : A = B := by
      unfold cmpN at h2
      split at h2
      · exact absurd h2 (by decide)
      · split at h2
        · next h => exact h
        · exact absurd h2 (by decide)
    rw [decide_eq_true h3]
    exact ⟨rfl, rfl⟩
