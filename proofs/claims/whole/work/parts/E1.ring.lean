/-! RING: numbers of eight words -/
theorem low_l {x : Nat} (hx : x < 4294967296) : (nI x).toInt64 &&& 4294967295 = lN x := by
  apply uN_inj
  rw [uN_lo]
  have e1 : uN (lN x) = x := by
    show (BitVec.ofNat 64 x).toNat = x
    rw [BitVec.toNat_ofNat]
    omega
  rw [e1]
  show ((nI x).toBitVec.signExtend 64).toNat % 4294967296 = x
  have e2 : (nI x).toBitVec.toNat = x := by
    show (BitVec.ofNat 32 x).toNat = x
    rw [BitVec.toNat_ofNat]
    omega
  rw [BitVec.toNat_signExtend, BitVec.toNat_setWidth, e2]
  split <;> omega
/-- a row of eight words that stands for V -/
def wA (S : ks_S) (a V : Nat) : Prop := ∃ g, S.2.2 a = some (kN 8 g) ∧ (∀ j, j < 8 → g j < 4294967296) ∧ dg 4294967296 g 8 = V
theorem wA.lt {S : ks_S} {a V : Nat} (h : wA S a V) : V < 2 ^ 256 := by
  obtain ⟨g, -, h2, h3⟩ := h
  rw [← h3]
  exact dg_lt h2
theorem wA.up {S S1 : ks_S} {a V : Nat} {L : List Nat} (h : wA S a V) (hu : ks_up S S1 L) (ha : a ∉ L) : wA S1 a V := by
  obtain ⟨g, h1, h2, h3⟩ := h
  exact ⟨g, hu.at h1 ha, h2, h3⟩
theorem wA.eq {S : ks_S} {a V W : Nat} (h : wA S a V) (h2 : wA S a W) : V = W := by
  obtain ⟨g, a1, a2, a3⟩ := h
  obtain ⟨f, b1, b2, b3⟩ := h2
  rw [a1] at b1
  have e : ∀ j, j < 8 → g j = f j := by
    intro j hj
    have h := Option.some.inj b1
    have h : (fun i => nI (g i)) = fun i => nI (f i) := by
      simp only [kN] at h
      injection h with h
      injection h with h1 h2
      injection h2 with h3 h4
      injection h4
    have h5 : nI (g j) = nI (f j) := congrFun h j
    have q1 := a2 j hj
    have q2 := b2 j hj
    have h6 : (nI (g j)).toBitVec.toNat = (nI (f j)).toBitVec.toNat := by rw [h5]
    have h7 : (BitVec.ofNat 32 (g j)).toNat = (BitVec.ofNat 32 (f j)).toNat := h6
    rw [BitVec.toNat_ofNat, BitVec.toNat_ofNat] at h7
    omega
  rw [← a3, ← b3]
  exact dg_congr e
/-- a word of a row that may be the one that is written -/
theorem rdW {S S1 : ks_S} {a t i : Nat} {ga gt g1 : Nat → Nat} (ha : S.2.2 a = some (kN 8 ga)) (hga : ∀ j, j < 8 → ga j < 4294967296) (ht : S.2.2 t = some (kN 8 gt)) (hgt : ∀ j, j < 8 → gt j < 4294967296) (h1 : S1.2.2 t = some (kN 8 g1)) (hu : ks_up S S1 [t]) (hi : i < 8) (e : g1 i = gt i) : ∃ g, S1.2.2 a = some (kN 8 g) ∧ g i = ga i := by
  by_cases c : a = t
  · subst c
    rw [ha] at ht
    refine ⟨g1, h1, e.trans ?_⟩
    have h := Option.some.inj ht
    have h : (fun i => nI (ga i)) = fun i => nI (gt i) := by
      simp only [kN] at h
      injection h with h
      injection h with h1 h2
      injection h2 with h3 h4
      injection h4
    have h5 : nI (ga i) = nI (gt i) := congrFun h i
    have q1 := hga i hi
    have q2 := hgt i hi
    have h6 : (nI (ga i)).toBitVec.toNat = (nI (gt i)).toBitVec.toNat := by rw [h5]
    have h7 : (BitVec.ofNat 32 (ga i)).toNat = (BitVec.ofNat 32 (gt i)).toNat := h6
    rw [BitVec.toNat_ofNat, BitVec.toNat_ofNat] at h7
    omega
  · exact ⟨ga, hu.at ha (by rw [List.mem_singleton]; exact c), rfl⟩
set_option maxRecDepth 100000 in
set_option maxHeartbeats 800000 in
theorem c_rg_plus {l : Launch} {G : ks_G} {d : Nat} {S : ks_S} {a b t A B T : Nat} (hA : wA S a A) (hB : wA S b B) (hT : wA S t T) (ht9 : t < ks_B) : ks_P l G yX15_plus mX15_plus d [.ref a, .ref b, .ref t] S (fun z S' => z = some (.long (lN ((A + B) / 2 ^ 256))) ∧ ks_up S S' [t] ∧ wA S' t ((A + B) % 2 ^ 256)) := by
  obtain ⟨ga, ea, ba, rfl⟩ := hA
  obtain ⟨gb, eb, bb, rfl⟩ := hB
  obtain ⟨gt, et, bt, rfl⟩ := hT
  have loop : ∀ (u i c : Nat) (S1 : ks_S) (g1 : Nat → Nat), i + u = 8 → ks_up S S1 [t] → S1.2.2 t = some (kN 8 g1) → (∀ j, j < 8 → g1 j < 4294967296) → (∀ j, i ≤ j → j < 8 → g1 j = gt j) → c ≤ 1 → dg 4294967296 g1 i + 4294967296 ^ i * c = dg 4294967296 ga i + dg 4294967296 gb i → ks_X l G mX15_plus d 5 [(0, .ref a), (1, .ref b), (2, .ref t), (3, .long (lN c)), (5, .int (nI i))] [] S1 (fun z S' => z = some (.long (lN ((dg 4294967296 ga 8 + dg 4294967296 gb 8) / 2 ^ 256))) ∧ ks_up S S' [t] ∧ wA S' t ((dg 4294967296 ga 8 + dg 4294967296 gb 8) % 2 ^ 256)) := by
    intro u
    induction u with
    | zero =>
      intro i c S1 g1 hi hu e1 b1 hk hc hd
      obtain rfl : i = 8 := hi
      have hlt : dg 4294967296 g1 8 < 2 ^ 256 := dg_lt b1
      refine ks_iload dX15_plus_5 rfl rfl ?_
      refine ks_bipush (x := nI 8) dX15_plus_7 (by decide) rfl ?_
      refine ks_icmp_geN (tgt := 51) (by decide) (by decide) dX15_plus_9 (by decide) rfl (fun _ => ?_) (fun h => absurd h (by decide))
      refine ks_lload_n dX15_plus_51 rfl rfl ?_
      refine ks_lret rfl dX15_plus_52 ?_
      have e256 : (4294967296 : Nat) ^ 8 = 2 ^ 256 := by decide
      rw [e256] at hd
      have ec : (dg 4294967296 ga 8 + dg 4294967296 gb 8) / 2 ^ 256 = c := by rw [← hd]; omega
      have em : (dg 4294967296 ga 8 + dg 4294967296 gb 8) % 2 ^ 256 = dg 4294967296 g1 8 := by rw [← hd]; omega
      rw [ec, em]
      exact ⟨rfl, hu, g1, e1, b1, rfl⟩
    | succ u ih =>
      intro i c S1 g1 hi hu e1 b1 hk hc hd
      have i8 : i < 8 := by omega
      obtain ⟨gA, eA, vA⟩ := rdW ea ba et bt e1 hu i8 (hk i (Nat.le_refl _) i8)
      obtain ⟨gB, eB, vB⟩ := rdW eb bb et bt e1 hu i8 (hk i (Nat.le_refl _) i8)
      have qa := ba i i8
      have qb := bb i i8
      refine ks_iload dX15_plus_5 rfl rfl ?_
      refine ks_bipush (x := nI 8) dX15_plus_7 (by decide) rfl ?_
      refine ks_icmp_geN (tgt := 51) (by omega) (by decide) dX15_plus_9 (by decide) rfl (fun h1 => absurd h1 (by omega)) (fun h1 => ?_)
      refine ks_lload_n dX15_plus_12 rfl rfl ?_
      refine ks_aload_n dX15_plus_13 rfl rfl ?_
      refine ks_iload dX15_plus_14 rfl rfl ?_
      refine ks_ialdN (i := i) eA rfl (by omega) (by decide) dX15_plus_16 rfl ?_
      rw [vA]
      refine ks_i2l dX15_plus_17 rfl ?_
      refine ks_ldc2 dX15_plus_18 kx_1868 rfl ?_
      refine ks_land dX15_plus_21 rfl ?_
      refine ks_tl (y := lN (ga i)) (low_l (by omega)) ?_
      refine ks_aload_n dX15_plus_22 rfl rfl ?_
      refine ks_iload dX15_plus_23 rfl rfl ?_
      refine ks_ialdN (i := i) eB rfl (by omega) (by decide) dX15_plus_25 rfl ?_
      rw [vB]
      refine ks_i2l dX15_plus_26 rfl ?_
      refine ks_ldc2 dX15_plus_27 kx_1868 rfl ?_
      refine ks_land dX15_plus_30 rfl ?_
      refine ks_tl (y := lN (gb i)) (low_l (by omega)) ?_
      refine ks_laddN dX15_plus_31 rfl ?_
      refine ks_laddN dX15_plus_32 rfl ?_
      refine ks_lstore_n dX15_plus_33 (by decide) rfl ?_
      refine ks_sub [(3, _), (0, _), (1, _), (2, _), (5, _)] rfl ?_
      refine ks_aload_n dX15_plus_34 rfl rfl ?_
      refine ks_iload dX15_plus_35 rfl rfl ?_
      refine ks_lload_n dX15_plus_37 rfl rfl ?_
      refine ks_l2iN dX15_plus_38 rfl ?_
      refine ks_ti (y := nI ((c + (ga i + gb i)) % 4294967296)) (nI_mod _) ?_
      refine ks_iastNN (i := i) (v := (c + (ga i + gb i)) % 4294967296) ht9 e1 (by omega) (by decide) dX15_plus_39 rfl ?_
      refine ks_lload_n dX15_plus_40 rfl rfl ?_
      refine ks_bipush (x := nI 32) dX15_plus_41 (by decide) rfl ?_
      refine ks_lushrN (k := 32) (by decide) (by omega) dX15_plus_43 rfl ?_
      refine ks_lstore_n dX15_plus_44 (by decide) rfl ?_
      refine ks_sub [(3, _), (0, _), (1, _), (2, _), (5, _)] rfl ?_
      refine ks_incN (c := 1) (e := i + 1) dX15_plus_45 rfl (by decide) rfl (by decide) rfl ?_
      refine ks_sub [(5, _), (0, _), (1, _), (2, _), (3, _)] rfl ?_
      refine ks_goto (tgt := 5) dX15_plus_48 (by decide) ?_
      have hcy := dg_cy (X := dg 4294967296 ga i + dg 4294967296 gb i) (o := va_up g1 i ((c + (ga i + gb i)) % 4294967296)) (t := ga i + gb i) (by rw [dg_up_out (Nat.le_refl _)]; exact hd) (va_up_self _ _ _)
      refine ks_sub [(0, _), (1, _), (2, _), (3, _), (5, _)] rfl (ih (i + 1) ((c + (ga i + gb i)) / 2 ^ 32) _ _ (by omega) (hu.trans (ks_up_set _ _ (List.mem_singleton.mpr rfl))) (ks_set_same _ _ _) (fun j hj => ?_) (fun j h1 h2 => ?_) (by omega) ?_)
      · by_cases e : j = i
        · subst e; rw [va_up_self]; exact Nat.mod_lt _ (by decide)
        · rw [va_up_ne _ _ e]; exact b1 j hj
      · rw [va_up_ne _ _ (by omega)]; exact hk j (by omega) h2
      · rw [show (2 : Nat) ^ 32 = 4294967296 from rfl, hcy, dg_s, dg_s, Nat.add_mul]
        omega
  refine ks_of (by decide) rfl rfl (Nat.le_of_ble_eq_true rfl) ?_
  show ks_X l G mX15_plus d 0 [(0, .ref a), (1, .ref b), (2, .ref t)] [] S _
  refine ks_lconst (x := lN 0) dX15_plus_0 (by decide) rfl ?_
  refine ks_lstore_n dX15_plus_1 (by decide) rfl ?_
  refine ks_sub [(3, _), (0, _), (1, _), (2, _)] rfl ?_
  refine ks_iconst (x := nI 0) dX15_plus_2 (by decide) rfl ?_
  refine ks_istore dX15_plus_3 (by decide) rfl ?_
  refine ks_sub [(5, _), (0, _), (1, _), (2, _), (3, _)] rfl ?_
  exact ks_sub [(0, _), (1, _), (2, _), (3, _), (5, _)] rfl (loop 8 0 0 S gt rfl (ks_up.rf _ _) et bt (fun j _ _ => rfl) (by decide) rfl)
theorem sub_l (a b c : Nat) : lN a - lN b - lN c = Int64.ofInt ((a : Int) - b - c) := by
  rw [Int64.ofInt_sub, Int64.ofInt_sub]
  rfl
theorem sub_neg {a b c : Nat} (ha : a < 4294967296) (hb : b < 4294967296) (hc : c ≤ 1) : lN 0 ≤ lN a - lN b - lN c ↔ b + c ≤ a := by
  rw [sub_l, Int64.le_iff_toInt_le, Int64.toInt_ofInt_of_le (by omega) (by omega), show (lN 0).toInt = 0 from rfl]
  omega
theorem sub_i {a b c : Nat} (ha : a < 4294967296) (hb : b < 4294967296) (hc : c ≤ 1) : (lN a - lN b - lN c).toInt32 = nI ((a + 4294967296 - (b + c)) % 4294967296) := by
  rw [sub_l, Int64.toInt32_ofInt]
  apply Int32.toBitVec_inj.mp
  apply BitVec.eq_of_toNat_eq
  show (BitVec.ofInt 32 ((a : Int) - b - c)).toNat = (BitVec.ofNat 32 ((a + 4294967296 - (b + c)) % 4294967296)).toNat
  rw [BitVec.toNat_ofInt, BitVec.toNat_ofNat]
  omega
set_option maxRecDepth 100000 in
set_option maxHeartbeats 800000 in
theorem c_rg_less {l : Launch} {G : ks_G} {d : Nat} {S : ks_S} {a b t A B T : Nat} (hA : wA S a A) (hB : wA S b B) (hT : wA S t T) (ht9 : t < ks_B) : ks_P l G yX15_less mX15_less d [.ref a, .ref b, .ref t] S (fun z S' => z = some (.long (lN (if A < B then 1 else 0))) ∧ ks_up S S' [t] ∧ wA S' t ((A + 2 ^ 256 - B) % 2 ^ 256)) := by
  have lA := hA.lt
  have lB := hB.lt
  obtain ⟨ga, ea, ba, rfl⟩ := hA
  obtain ⟨gb, eb, bb, rfl⟩ := hB
  obtain ⟨gt, et, bt, rfl⟩ := hT
  have loop : ∀ (u i c : Nat) (S1 : ks_S) (g1 : Nat → Nat), i + u = 8 → ks_up S S1 [t] → S1.2.2 t = some (kN 8 g1) → (∀ j, j < 8 → g1 j < 4294967296) → (∀ j, i ≤ j → j < 8 → g1 j = gt j) → c ≤ 1 → dg 4294967296 g1 i + dg 4294967296 gb i = dg 4294967296 ga i + 4294967296 ^ i * c → ks_X l G mX15_less d 5 [(0, .ref a), (1, .ref b), (2, .ref t), (3, .long (lN c)), (5, .int (nI i))] [] S1 (fun z S' => z = some (.long (lN (if dg 4294967296 ga 8 < dg 4294967296 gb 8 then 1 else 0))) ∧ ks_up S S' [t] ∧ wA S' t ((dg 4294967296 ga 8 + 2 ^ 256 - dg 4294967296 gb 8) % 2 ^ 256)) := by
    intro u
    induction u with
    | zero =>
      intro i c S1 g1 hi hu e1 b1 hk hc hd
      obtain rfl : i = 8 := hi
      have hlt : dg 4294967296 g1 8 < 2 ^ 256 := dg_lt b1
      refine ks_iload dX15_less_5 rfl rfl ?_
      refine ks_bipush (x := nI 8) dX15_less_7 (by decide) rfl ?_
      refine ks_icmp_geN (tgt := 61) (by decide) (by decide) dX15_less_9 (by decide) rfl (fun _ => ?_) (fun h => absurd h (by decide))
      refine ks_lload_n dX15_less_61 rfl rfl ?_
      refine ks_lret rfl dX15_less_62 ?_
      have e256 : (4294967296 : Nat) ^ 8 = 2 ^ 256 := by decide
      rw [e256] at hd
      have ec : (if dg 4294967296 ga 8 < dg 4294967296 gb 8 then 1 else 0) = c := by
        split <;> omega
      have em : (dg 4294967296 ga 8 + 2 ^ 256 - dg 4294967296 gb 8) % 2 ^ 256 = dg 4294967296 g1 8 := by omega
      rw [ec, em]
      exact ⟨rfl, hu, g1, e1, b1, rfl⟩
    | succ u ih =>
      intro i c S1 g1 hi hu e1 b1 hk hc hd
      have i8 : i < 8 := by omega
      obtain ⟨gA, eA, vA⟩ := rdW ea ba et bt e1 hu i8 (hk i (Nat.le_refl _) i8)
      obtain ⟨gB, eB, vB⟩ := rdW eb bb et bt e1 hu i8 (hk i (Nat.le_refl _) i8)
      have qa := ba i i8
      have qb := bb i i8
      refine ks_iload dX15_less_5 rfl rfl ?_
      refine ks_bipush (x := nI 8) dX15_less_7 (by decide) rfl ?_
      refine ks_icmp_geN (tgt := 61) (by omega) (by decide) dX15_less_9 (by decide) rfl (fun h1 => absurd h1 (by omega)) (fun h1 => ?_)
      refine ks_aload_n dX15_less_12 rfl rfl ?_
      refine ks_iload dX15_less_13 rfl rfl ?_
      refine ks_ialdN (i := i) eA rfl (by omega) (by decide) dX15_less_15 rfl ?_
      rw [vA]
      refine ks_i2l dX15_less_16 rfl ?_
      refine ks_ldc2 dX15_less_17 kx_1868 rfl ?_
      refine ks_land dX15_less_20 rfl ?_
      refine ks_tl (y := lN (ga i)) (low_l (by omega)) ?_
      refine ks_aload_n dX15_less_21 rfl rfl ?_
      refine ks_iload dX15_less_22 rfl rfl ?_
      refine ks_ialdN (i := i) eB rfl (by omega) (by decide) dX15_less_24 rfl ?_
      rw [vB]
      refine ks_i2l dX15_less_25 rfl ?_
      refine ks_ldc2 dX15_less_26 kx_1868 rfl ?_
      refine ks_land dX15_less_29 rfl ?_
      refine ks_tl (y := lN (gb i)) (low_l (by omega)) ?_
      refine ks_lsub dX15_less_30 rfl ?_
      refine ks_lload_n dX15_less_31 rfl rfl ?_
      refine ks_lsub dX15_less_32 rfl ?_
      refine ks_lstore dX15_less_33 (by decide) rfl ?_
      refine ks_sub [(6, _), (0, _), (1, _), (2, _), (3, _), (5, _)] rfl ?_
      refine ks_aload_n dX15_less_35 rfl rfl ?_
      refine ks_iload dX15_less_36 rfl rfl ?_
      refine ks_lload dX15_less_38 rfl rfl ?_
      refine ks_l2i dX15_less_40 rfl ?_
      refine ks_ti (y := nI ((ga i + 4294967296 - (gb i + c)) % 4294967296)) (sub_i qa qb hc) ?_
      refine ks_iastNN (i := i) (v := (ga i + 4294967296 - (gb i + c)) % 4294967296) ht9 e1 (by omega) (by decide) dX15_less_41 rfl ?_
      refine ks_lload dX15_less_42 rfl rfl ?_
      refine ks_lconst (x := lN 0) dX15_less_44 (by decide) rfl ?_
      refine ks_lif_ge (tgt := 53) dX15_less_45 rfl dX15_less_46 (by decide) rfl (fun h2 => ?_) (fun h2 => ?_)
      · have h3 := (sub_neg qa qb hc).mp h2
        refine ks_lconst (x := lN 0) dX15_less_53 (by decide) rfl ?_
        refine ks_lstore_n dX15_less_54 (by decide) rfl ?_
        refine ks_sub [(3, _), (0, _), (1, _), (2, _), (5, _), (6, _)] rfl ?_
        refine ks_incN (c := 1) (e := i + 1) dX15_less_55 rfl (by decide) rfl (by decide) rfl ?_
        refine ks_sub [(5, _), (0, _), (1, _), (2, _), (3, _), (6, _)] rfl ?_
        refine ks_goto (tgt := 5) dX15_less_58 (by decide) ?_
        refine ks_sub [(0, _), (1, _), (2, _), (3, _), (5, _)] rfl (ih (i + 1) 0 _ (va_up g1 i ((ga i + 4294967296 - (gb i + c)) % 4294967296)) (by omega) (hu.trans (ks_up_set _ _ (List.mem_singleton.mpr rfl))) (ks_set_same _ _ _) (fun j hj => ?_) (fun j h1 h2 => ?_) (by decide) ?_)
        · by_cases e : j = i
          · subst e; rw [va_up_self]; exact Nat.mod_lt _ (by decide)
          · rw [va_up_ne _ _ e]; exact b1 j hj
        · rw [va_up_ne _ _ (by omega)]; exact hk j (by omega) h2
        · rw [dg_s, dg_s, dg_s, dg_up_out (Nat.le_refl _), va_up_self, Nat.mod_eq_sub_mod (by omega), Nat.mod_eq_of_lt (by omega)]
          have hx : 4294967296 ^ (i + 1) = 4294967296 ^ i * 4294967296 := Nat.pow_succ _ _
          generalize 4294967296 ^ i = W at *
          rw [hx]
          obtain ⟨y, hy⟩ : ∃ y, y = ga i + 4294967296 - (gb i + c) - 4294967296 := ⟨_, rfl⟩
          rw [← hy]
          have h9 : y * W + gb i * W + W * c = ga i * W := by
            rw [Nat.mul_comm W c, ← Nat.add_mul, ← Nat.add_mul, show y + gb i + c = ga i by omega]
          omega
      · have h3 := mt (sub_neg qa qb hc).mpr h2
        refine ks_lconst (x := lN 1) dX15_less_49 (by decide) rfl ?_
        refine ks_goto (tgt := 54) dX15_less_50 (by decide) ?_
        refine ks_lstore_n dX15_less_54 (by decide) rfl ?_
        refine ks_sub [(3, _), (0, _), (1, _), (2, _), (5, _), (6, _)] rfl ?_
        refine ks_incN (c := 1) (e := i + 1) dX15_less_55 rfl (by decide) rfl (by decide) rfl ?_
        refine ks_sub [(5, _), (0, _), (1, _), (2, _), (3, _), (6, _)] rfl ?_
        refine ks_goto (tgt := 5) dX15_less_58 (by decide) ?_
        refine ks_sub [(0, _), (1, _), (2, _), (3, _), (5, _)] rfl (ih (i + 1) 1 _ (va_up g1 i ((ga i + 4294967296 - (gb i + c)) % 4294967296)) (by omega) (hu.trans (ks_up_set _ _ (List.mem_singleton.mpr rfl))) (ks_set_same _ _ _) (fun j hj => ?_) (fun j h1 h2 => ?_) (by decide) ?_)
        · by_cases e : j = i
          · subst e; rw [va_up_self]; exact Nat.mod_lt _ (by decide)
          · rw [va_up_ne _ _ e]; exact b1 j hj
        · rw [va_up_ne _ _ (by omega)]; exact hk j (by omega) h2
        · rw [dg_s, dg_s, dg_s, dg_up_out (Nat.le_refl _), va_up_self, Nat.mod_eq_of_lt (by omega)]
          have hx : 4294967296 ^ (i + 1) = 4294967296 ^ i * 4294967296 := Nat.pow_succ _ _
          generalize 4294967296 ^ i = W at *
          rw [hx]
          obtain ⟨y, hy⟩ : ∃ y, y = ga i + 4294967296 - (gb i + c) := ⟨_, rfl⟩
          rw [← hy]
          have h9 : y * W + gb i * W + W * c = ga i * W + W * 4294967296 * 1 := by
            rw [Nat.mul_comm W c, ← Nat.add_mul, ← Nat.add_mul, show y + gb i + c = ga i + 4294967296 by omega, Nat.add_mul, Nat.mul_comm 4294967296 W, Nat.mul_one]
          omega
  refine ks_of (by decide) rfl rfl (Nat.le_of_ble_eq_true rfl) ?_
  show ks_X l G mX15_less d 0 [(0, .ref a), (1, .ref b), (2, .ref t)] [] S _
  refine ks_lconst (x := lN 0) dX15_less_0 (by decide) rfl ?_
  refine ks_lstore_n dX15_less_1 (by decide) rfl ?_
  refine ks_sub [(3, _), (0, _), (1, _), (2, _)] rfl ?_
  refine ks_iconst (x := nI 0) dX15_less_2 (by decide) rfl ?_
  refine ks_istore dX15_less_3 (by decide) rfl ?_
  refine ks_sub [(5, _), (0, _), (1, _), (2, _), (3, _)] rfl ?_
  exact ks_sub [(0, _), (1, _), (2, _), (3, _), (5, _)] rfl (loop 8 0 0 S gt rfl (ks_up.rf _ _) et bt (fun j _ _ => rfl) (by decide) (by show 0 + 0 = 0 + _; simp))
