/-! RING: sums modulo, a row's put, the product -/
theorem cmpN_lt {A B : Nat} : cmpN A B < 0 ↔ A < B := by
  unfold cmpN
  split
  · next h => exact ⟨fun _ => h, fun _ => by decide⟩
  · next h =>
    split
    · exact ⟨fun q => absurd q (by decide), fun q => absurd q h⟩
    · exact ⟨fun q => absurd q (by decide), fun q => absurd q h⟩
/-- a ring modulo m -/
def rgX (S : ks_S) (o m : Nat) (mn : Int32) : Prop := S.2.2 o = some (rgO o mn) ∧ wA S (o + 1) m ∧ (∃ g, S.2.2 (o + 5) = some (kN 10 g) ∧ ∀ j, j < 10 → g j < 4294967296) ∧ o + 8 < ks_B
theorem rgX.up {S S1 : ks_S} {o m : Nat} {mn : Int32} {L : List Nat} (h : rgX S o m mn) (hu : ks_up S S1 L) (h1 : o ∉ L) (h2 : o + 1 ∉ L) (h3 : o + 5 ∉ L) : rgX S1 o m mn := by
  obtain ⟨a, b, ⟨g, c1, c2⟩, d⟩ := h
  exact ⟨hu.at a h1, b.up hu h2, ⟨g, hu.at c1 h3, c2⟩, d⟩
theorem wA.ne {S : ks_S} {a V o : Nat} {mn : Int32} (h : wA S a V) (ho : S.2.2 o = some (rgO o mn)) : a ≠ o := by
  obtain ⟨g, h1, -⟩ := h
  exact ks_neO h1 ho
set_option maxRecDepth 100000 in
set_option maxHeartbeats 800000 in
theorem c_rg_add {l : Launch} {G : ks_G} {d : Nat} {S : ks_S} {o m a b t A B T : Nat} {mn : Int32} (hr : S.2.2 o = some (rgO o mn)) (hm : wA S (o + 1) m) (ho9 : o + 8 < ks_B) (hA : wA S a A) (hB : wA S b B) (hT : wA S t T) (ht9 : t < ks_B) (htm : t ≠ o + 1) (hAm : A < m) (hBm : B < m) : ks_P l G yX15_add mX15_add (d + 1) [.ref o, .ref a, .ref b, .ref t] S (fun z S' => z = none ∧ ks_up S S' [t] ∧ wA S' t ((A + B) % m)) := by
  have m256 := hm.lt
  have hto := hT.ne hr
  refine ks_of (by decide) rfl rfl (Nat.le_of_ble_eq_true rfl) ?_
  show ks_X l G mX15_add (d + 1) 0 [(0, .ref o), (1, .ref a), (2, .ref b), (3, .ref t)] [] S _
  refine ks_aload_n dX15_add_0 rfl rfl ?_
  refine ks_aload_n dX15_add_1 rfl rfl ?_
  refine ks_aload_n dX15_add_2 rfl rfl ?_
  refine ks_callS (n := 3) (M' := mX15_plus) (c_rg_plus (d := d) hA hB hT ht9) kx_1865 kx_1866 kx_33 kx_1867 (by decide +kernel) rfl (by decide) (Nat.le_of_ble_eq_true rfl) rfl dX15_add_3 rfl (fun z1 T1 y1 => ?_)
  obtain ⟨rfl, u1, w1⟩ := y1
  have r1 := u1.at hr (by rw [List.mem_singleton]; exact Ne.symm hto)
  have m1 := hm.up u1 (by rw [List.mem_singleton]; exact Ne.symm htm)
  refine ks_lconst (x := lN 0) dX15_add_6 (by decide) rfl ?_
  refine ks_lif_neN (tgt := 22) (by omega) (by decide) dX15_add_7 rfl dX15_add_8 (by decide) rfl (fun h1 => ?_) (fun h1 => ?_)
  · refine ks_aload_n dX15_add_22 rfl rfl ?_
    refine ks_aload_n dX15_add_23 rfl rfl ?_
    refine ks_getf (T := TX15) (kf := 0) kx_1878 rfl in_X15 cl_X15 (by decide) r1 rfl dX15_add_24 rfl ?_
    refine ks_aload_n dX15_add_27 rfl rfl ?_
    refine ks_callS (n := 3) (M' := mX15_less) (c_rg_less (d := d) w1 m1 w1 ht9) kx_1872 kx_1873 kx_33 kx_1874 (by decide +kernel) rfl (by decide) (Nat.le_of_ble_eq_true rfl) rfl dX15_add_28 rfl (fun z3 T3 y3 => ?_)
    obtain ⟨rfl, u3, w3⟩ := y3
    refine ks_pop2_2 dX15_add_31 rfl rfl ?_
    refine ks_ret rfl dX15_add_32 ?_
    have e : ((A + B) % 2 ^ 256 + 2 ^ 256 - m) % 2 ^ 256 = (A + B) % m := by
      have q : 2 ^ 256 ≤ A + B := by
        rcases Nat.lt_or_ge (A + B) (2 ^ 256) with h | h
        · exact absurd (Nat.div_eq_of_lt h) h1
        · exact h
      rw [Nat.mod_eq_sub_mod (a := A + B) (b := m) (by omega), Nat.mod_eq_of_lt (a := A + B - m) (by omega)]
      omega
    rw [e] at w3
    exact ⟨rfl, u1.trans u3, w3⟩
  · have q : A + B < 2 ^ 256 := by
      rcases Nat.lt_or_ge (A + B) (2 ^ 256) with h | h
      · exact h
      · have := Nat.div_pos h (by decide : 0 < 2 ^ 256); omega
    rw [Nat.mod_eq_of_lt q] at w1
    refine ks_aload_n dX15_add_11 rfl rfl ?_
    refine ks_aload_n dX15_add_12 rfl rfl ?_
    refine ks_getf (T := TX15) (kf := 0) kx_1878 rfl in_X15 cl_X15 (by decide) r1 rfl dX15_add_13 rfl ?_
    refine ks_callS (n := 2) (M' := mX15_compare) (c_rg_compare (d := d) w1 m1 ht9 (by omega)) kx_1869 kx_1870 kx_33 kx_1871 (by decide +kernel) rfl (by decide) (Nat.le_of_ble_eq_true rfl) rfl dX15_add_16 rfl (fun z2 T2 y2 => ?_)
    obtain ⟨rfl, hT2⟩ := y2
    obtain rfl := hT2.symm
    refine ks_if_lt (tgt := 32) dX15_add_19 (by decide) rfl (fun h2 => ?_) (fun h2 => ?_)
    · refine ks_ret rfl dX15_add_32 ?_
      have h3 := cmpN_lt.mp h2
      rw [Nat.mod_eq_of_lt h3]
      exact ⟨rfl, u1, w1⟩
    · have h3 := mt cmpN_lt.mpr h2
      refine ks_aload_n dX15_add_22 rfl rfl ?_
      refine ks_aload_n dX15_add_23 rfl rfl ?_
      refine ks_getf (T := TX15) (kf := 0) kx_1878 rfl in_X15 cl_X15 (by decide) r1 rfl dX15_add_24 rfl ?_
      refine ks_aload_n dX15_add_27 rfl rfl ?_
      refine ks_callS (n := 3) (M' := mX15_less) (c_rg_less (d := d) w1 m1 w1 ht9) kx_1872 kx_1873 kx_33 kx_1874 (by decide +kernel) rfl (by decide) (Nat.le_of_ble_eq_true rfl) rfl dX15_add_28 rfl (fun z3 T3 y3 => ?_)
      obtain ⟨rfl, u3, w3⟩ := y3
      refine ks_pop2_2 dX15_add_31 rfl rfl ?_
      refine ks_ret rfl dX15_add_32 ?_
      have e : (A + B + 2 ^ 256 - m) % 2 ^ 256 = (A + B) % m := by
        rw [Nat.mod_eq_sub_mod (a := A + B) (b := m) (by omega), Nat.mod_eq_of_lt (a := A + B - m) (by omega)]
        omega
      rw [e] at w3
      exact ⟨rfl, u1.trans u3, w3⟩
set_option maxRecDepth 100000 in
set_option maxHeartbeats 800000 in
theorem c_rg_subtract {l : Launch} {G : ks_G} {d : Nat} {S : ks_S} {o m a b t A B T : Nat} {mn : Int32} (hr : S.2.2 o = some (rgO o mn)) (hm : wA S (o + 1) m) (ho9 : o + 8 < ks_B) (hA : wA S a A) (hB : wA S b B) (hT : wA S t T) (ht9 : t < ks_B) (htm : t ≠ o + 1) (hAm : A < m) (hBm : B < m) : ks_P l G yX15_subtract mX15_subtract (d + 1) [.ref o, .ref a, .ref b, .ref t] S (fun z S' => z = none ∧ ks_up S S' [t] ∧ wA S' t ((A + m - B) % m)) := by
  have m256 := hm.lt
  have hto := hT.ne hr
  refine ks_of (by decide) rfl rfl (Nat.le_of_ble_eq_true rfl) ?_
  show ks_X l G mX15_subtract (d + 1) 0 [(0, .ref o), (1, .ref a), (2, .ref b), (3, .ref t)] [] S _
  refine ks_aload_n dX15_subtract_0 rfl rfl ?_
  refine ks_aload_n dX15_subtract_1 rfl rfl ?_
  refine ks_aload_n dX15_subtract_2 rfl rfl ?_
  refine ks_callS (n := 3) (M' := mX15_less) (c_rg_less (d := d) hA hB hT ht9) kx_1872 kx_1873 kx_33 kx_1874 (by decide +kernel) rfl (by decide) (Nat.le_of_ble_eq_true rfl) rfl dX15_subtract_3 rfl (fun z1 T1 y1 => ?_)
  obtain ⟨rfl, u1, w1⟩ := y1
  have r1 := u1.at hr (by rw [List.mem_singleton]; exact Ne.symm hto)
  have m1 := hm.up u1 (by rw [List.mem_singleton]; exact Ne.symm htm)
  have c1 : (if A < B then 1 else 0) < 2 := by split <;> decide
  refine ks_lconst (x := lN 0) dX15_subtract_6 (by decide) rfl ?_
  refine ks_lif_eqN (tgt := 21) (by omega) (by decide) dX15_subtract_7 rfl dX15_subtract_8 (by decide) rfl (fun h1 => ?_) (fun h1 => ?_)
  · refine ks_ret rfl dX15_subtract_21 ?_
    have q : ¬ A < B := fun h => by rw [if_pos h] at h1; omega
    have e : (A + 2 ^ 256 - B) % 2 ^ 256 = (A + m - B) % m := by
      rw [Nat.mod_eq_sub_mod (a := A + m - B) (b := m) (by omega), Nat.mod_eq_of_lt (a := A + m - B - m) (by omega)]
      omega
    rw [e] at w1
    exact ⟨rfl, u1, w1⟩
  · refine ks_aload_n dX15_subtract_11 rfl rfl ?_
    refine ks_aload_n dX15_subtract_12 rfl rfl ?_
    refine ks_getf (T := TX15) (kf := 0) kx_1878 rfl in_X15 cl_X15 (by decide) r1 rfl dX15_subtract_13 rfl ?_
    refine ks_aload_n dX15_subtract_16 rfl rfl ?_
    refine ks_callS (n := 3) (M' := mX15_plus) (c_rg_plus (d := d) w1 m1 w1 ht9) kx_1865 kx_1866 kx_33 kx_1867 (by decide +kernel) rfl (by decide) (Nat.le_of_ble_eq_true rfl) rfl dX15_subtract_17 rfl (fun z3 T3 y3 => ?_)
    obtain ⟨rfl, u3, w3⟩ := y3
    refine ks_pop2_2 dX15_subtract_20 rfl rfl ?_
    refine ks_ret rfl dX15_subtract_21 ?_
    have q : A < B := by
      rcases Nat.lt_or_ge A B with h | h
      · exact h
      · rw [if_neg (by omega)] at h1; exact absurd rfl h1
    have e : ((A + 2 ^ 256 - B) % 2 ^ 256 + m) % 2 ^ 256 = (A + m - B) % m := by
      rw [Nat.mod_eq_of_lt (a := A + 2 ^ 256 - B) (by omega), Nat.mod_eq_of_lt (a := A + m - B) (by omega)]
      omega
    rw [e] at w3
    exact ⟨rfl, u1.trans u3, w3⟩
set_option maxRecDepth 100000 in
set_option maxHeartbeats 800000 in
theorem c_rg_put {l : Launch} {G : ks_G} {d : Nat} {S : ks_S} {o b x B : Nat} {mn : Int32} {gr : Nat → Nat} (hr : S.2.2 o = some (rgO o mn)) (ho9 : o + 8 < ks_B) (hB : wA S b B) (hbr : b ≠ o + 5) (hb9 : b < ks_B) (hx : x < 4294967296) (er : S.2.2 (o + 5) = some (kN 10 gr)) (br : ∀ j, j < 10 → gr j < 4294967296) (hfit : dg 4294967296 gr 10 + x * B < 4294967296 ^ 10) : ks_P l G yX15_put mX15_put d [.ref o, .int (nI x), .ref b] S (fun z S' => z = none ∧ ks_up S S' [o + 5] ∧ ∃ g', S'.2.2 (o + 5) = some (kN 10 g') ∧ (∀ j, j < 10 → g' j < 4294967296) ∧ dg 4294967296 g' 10 = dg 4294967296 gr 10 + x * B) := by
  obtain ⟨gb, eb, bb, rfl⟩ := hB
  have o5 : o + 5 ≠ o := by omega
  have loop : ∀ (u k c : Nat) (S1 : ks_S) (g1 : Nat → Nat), k + u = 8 → ks_up S S1 [o + 5] → S1.2.2 (o + 5) = some (kN 10 g1) → (∀ j, j < 10 → g1 j < 4294967296) → (∀ j, k ≤ j → j < 10 → g1 j = gr j) → c < 4294967296 → dg 4294967296 g1 k + 4294967296 ^ k * c = dg 4294967296 gr k + x * dg 4294967296 gb k → ks_X l G mX15_put d 5 [(0, .ref o), (1, .int (nI x)), (2, .ref b), (3, .long (lN c)), (5, .int (nI k))] [] S1 (fun z S' => z = none ∧ ks_up S S' [o + 5] ∧ ∃ g', S'.2.2 (o + 5) = some (kN 10 g') ∧ (∀ j, j < 10 → g' j < 4294967296) ∧ dg 4294967296 g' 10 = dg 4294967296 gr 10 + x * dg 4294967296 gb 8) := by
    intro u
    induction u with
    | zero =>
      intro k c S1 g1 hk hu e1 b1 hg hc hd
      have r1 := hu.at hr (by rw [List.mem_singleton]; omega)
      have eb1 := hu.at eb (by rw [List.mem_singleton]; exact hbr)
      obtain rfl : k = 8 := hk
      have b8 := br 8 (by decide)
      have b9 := br 9 (by decide)
      have q8 := hg 8 (by decide) (by decide)
      have q9 := hg 9 (by decide) (by decide)
      refine ks_iload dX15_put_5 rfl rfl ?_
      refine ks_bipush (x := nI 8) dX15_put_7 (by decide) rfl ?_
      refine ks_icmp_geN (tgt := 64) (by decide) (by decide) dX15_put_9 (by decide) rfl (fun _ => ?_) (fun h => absurd h (by decide))
      refine ks_lload_n dX15_put_64 rfl rfl ?_
      refine ks_aload_n dX15_put_65 rfl rfl ?_
      refine ks_getf (T := TX15) (kf := 5) kx_1885 rfl in_X15 cl_X15 (by decide) r1 rfl dX15_put_66 rfl ?_
      refine ks_bipush (x := nI 8) dX15_put_69 (by decide) rfl ?_
      refine ks_ialdN (i := 8) e1 rfl (by decide) (by decide) dX15_put_71 rfl ?_
      rw [q8]
      refine ks_i2l dX15_put_72 rfl ?_
      refine ks_ldc2 dX15_put_73 kx_1868 rfl ?_
      refine ks_land dX15_put_76 rfl ?_
      refine ks_tl (y := lN (gr 8)) (low_l (by omega)) ?_
      refine ks_laddN dX15_put_77 rfl ?_
      refine ks_lstore_n dX15_put_78 (by decide) rfl ?_
      refine ks_sub [(3, _), (0, _), (1, _), (2, _), (5, _)] rfl ?_
      refine ks_aload_n dX15_put_79 rfl rfl ?_
      refine ks_getf (T := TX15) (kf := 5) kx_1885 rfl in_X15 cl_X15 (by decide) r1 rfl dX15_put_80 rfl ?_
      refine ks_bipush (x := nI 8) dX15_put_83 (by decide) rfl ?_
      refine ks_lload_n dX15_put_85 rfl rfl ?_
      refine ks_l2iN dX15_put_86 rfl ?_
      refine ks_ti (y := nI ((c + gr 8) % 4294967296)) (nI_mod _) ?_
      refine ks_iastNN (i := 8) (v := (c + gr 8) % 4294967296) (by omega) e1 (by decide) (by decide) dX15_put_87 rfl ?_
      refine ks_aload_n dX15_put_88 rfl rfl ?_
      refine ks_getf (T := TX15) (kf := 5) kx_1885 rfl in_X15 cl_X15 (by decide) ((ks_set_ne _ _ (by omega)).trans r1) rfl dX15_put_89 rfl ?_
      refine ks_bipush (x := nI 9) dX15_put_92 (by decide) rfl ?_
      refine ks_dup2_11 dX15_put_94 rfl rfl rfl ?_
      refine ks_ialdN (i := 9) (ks_set_same _ _ _) rfl (by decide) (by decide) dX15_put_95 rfl ?_
      rw [va_up_ne _ _ (by decide), q9]
      refine ks_lload_n dX15_put_96 rfl rfl ?_
      refine ks_bipush (x := nI 32) dX15_put_97 (by decide) rfl ?_
      refine ks_lushrN (k := 32) (by decide) (by omega) dX15_put_99 rfl ?_
      refine ks_l2iN dX15_put_100 rfl ?_
      refine ks_addN dX15_put_101 rfl ?_
      refine ks_iastNN (i := 9) (v := gr 9 + ((c + (gr 8)) / 2 ^ 32)) (by omega) (ks_set_same _ _ _) (by decide) (by decide) dX15_put_102 rfl ?_
      refine ks_ret rfl dX15_put_103 ?_
      have ed : dg 4294967296 (va_up (va_up g1 8 ((c + gr 8) % 4294967296)) 9 (gr 9 + (c + gr 8) / 2 ^ 32)) 10 = dg 4294967296 gr 10 + x * dg 4294967296 gb 8 := by
        have hcy := dg_cy (X := dg 4294967296 gr 8 + x * dg 4294967296 gb 8) (o := va_up g1 8 ((c + gr 8) % 4294967296)) (i := 8) (c := c) (t := gr 8) (by rw [dg_up_out (Nat.le_refl _)]; exact hd) (va_up_self _ _ _)
        rw [show (10 : Nat) = 9 + 1 from rfl, dg_s, dg_s 4294967296 gr, dg_s 4294967296 gr, dg_up_out (Nat.le_refl _), va_up_self, show (2 : Nat) ^ 32 = 4294967296 from rfl, Nat.add_mul]
        rw [show (8 : Nat) + 1 = 9 from rfl] at hcy
        rw [Nat.mul_comm ((c + gr 8) / 4294967296)]
        omega
      have lo : dg 4294967296 (va_up g1 8 ((c + gr 8) % 4294967296)) 9 < 4294967296 ^ 9 := dg_lt (fun j hj => by
        by_cases e : j = 8
        · subst e; rw [va_up_self]; exact Nat.mod_lt _ (by decide)
        · rw [va_up_ne _ _ e]; exact b1 j (by omega))
      have h9 : gr 9 + (c + gr 8) / 2 ^ 32 < 4294967296 := by
        rw [show (10 : Nat) = 9 + 1 from rfl, dg_s 4294967296 (va_up _ 9 _), dg_up_out (Nat.le_refl _), va_up_self] at ed
        rw [show (9 : Nat) + 1 = 10 from rfl] at ed
        rw [← ed, show (4294967296 : Nat) ^ 10 = 4294967296 * 4294967296 ^ 9 from by decide] at hfit
        have : (gr 9 + (c + gr 8) / 2 ^ 32) * 4294967296 ^ 9 < 4294967296 * 4294967296 ^ 9 := by omega
        exact Nat.lt_of_mul_lt_mul_right this
      refine ⟨rfl, hu.trans ((ks_up_set _ _ (List.mem_singleton.mpr rfl)).trans (ks_up_set _ _ (List.mem_singleton.mpr rfl))), _, ks_set_same _ _ _, fun j hj => ?_, ed⟩
      by_cases e9 : j = 9
      · subst e9; rw [va_up_self]; exact h9
      · rw [va_up_ne _ _ e9]
        by_cases e8 : j = 8
        · subst e8; rw [va_up_self]; exact Nat.mod_lt _ (by decide)
        · rw [va_up_ne _ _ e8]; exact b1 j (by omega)
    | succ u ih =>
      intro k c S1 g1 hk hu e1 b1 hg hc hd
      have r1 := hu.at hr (by rw [List.mem_singleton]; omega)
      have eb1 := hu.at eb (by rw [List.mem_singleton]; exact hbr)
      have k8 : k < 8 := by omega
      have qb := bb k k8
      have qr := br k (by omega)
      have qk := hg k (Nat.le_refl _) (by omega)
      refine ks_iload dX15_put_5 rfl rfl ?_
      refine ks_bipush (x := nI 8) dX15_put_7 (by decide) rfl ?_
      refine ks_icmp_geN (tgt := 64) (by omega) (by decide) dX15_put_9 (by decide) rfl (fun h1 => absurd h1 (by omega)) (fun h1 => ?_)
      refine ks_lload_n dX15_put_12 rfl rfl ?_
      refine ks_iload_n dX15_put_13 rfl rfl ?_
      refine ks_i2l dX15_put_14 rfl ?_
      refine ks_ldc2 dX15_put_15 kx_1868 rfl ?_
      refine ks_land dX15_put_18 rfl ?_
      refine ks_tl (y := lN x) (low_l (by omega)) ?_
      refine ks_aload_n dX15_put_19 rfl rfl ?_
      refine ks_iload dX15_put_20 rfl rfl ?_
      refine ks_ialdN (i := k) eb1 rfl (by omega) (by decide) dX15_put_22 rfl ?_
      refine ks_i2l dX15_put_23 rfl ?_
      refine ks_ldc2 dX15_put_24 kx_1868 rfl ?_
      refine ks_land dX15_put_27 rfl ?_
      refine ks_tl (y := lN (gb k)) (low_l (by omega)) ?_
      refine ks_lmulN dX15_put_28 rfl ?_
      refine ks_aload_n dX15_put_29 rfl rfl ?_
      refine ks_getf (T := TX15) (kf := 5) kx_1885 rfl in_X15 cl_X15 (by decide) r1 rfl dX15_put_30 rfl ?_
      refine ks_iload dX15_put_33 rfl rfl ?_
      refine ks_ialdN (i := k) e1 rfl (by omega) (by decide) dX15_put_35 rfl ?_
      rw [qk]
      refine ks_i2l dX15_put_36 rfl ?_
      refine ks_ldc2 dX15_put_37 kx_1868 rfl ?_
      refine ks_land dX15_put_40 rfl ?_
      refine ks_tl (y := lN (gr k)) (low_l (by omega)) ?_
      refine ks_laddN dX15_put_41 rfl ?_
      refine ks_laddN dX15_put_42 rfl ?_
      refine ks_lstore_n dX15_put_43 (by decide) rfl ?_
      refine ks_sub [(3, _), (0, _), (1, _), (2, _), (5, _)] rfl ?_
      refine ks_aload_n dX15_put_44 rfl rfl ?_
      refine ks_getf (T := TX15) (kf := 5) kx_1885 rfl in_X15 cl_X15 (by decide) r1 rfl dX15_put_45 rfl ?_
      refine ks_iload dX15_put_48 rfl rfl ?_
      refine ks_lload_n dX15_put_50 rfl rfl ?_
      refine ks_l2iN dX15_put_51 rfl ?_
      have hv : c + (x * gb k + gr k) < 2 ^ 64 := by
        have := Nat.mul_le_mul (Nat.le_sub_one_of_lt hx) (Nat.le_sub_one_of_lt qb)
        omega
      refine ks_ti (y := nI ((c + (x * gb k + gr k)) % 4294967296)) (nI_mod _) ?_
      refine ks_iastNN (i := k) (v := (c + (x * gb k + gr k)) % 4294967296) (by omega) e1 (by omega) (by decide) dX15_put_52 rfl ?_
      refine ks_lload_n dX15_put_53 rfl rfl ?_
      refine ks_bipush (x := nI 32) dX15_put_54 (by decide) rfl ?_
      refine ks_lushrN (k := 32) (by decide) (by omega) dX15_put_56 rfl ?_
      refine ks_lstore_n dX15_put_57 (by decide) rfl ?_
      refine ks_sub [(3, _), (0, _), (1, _), (2, _), (5, _)] rfl ?_
      refine ks_incN (c := 1) (e := k + 1) dX15_put_58 rfl (by decide) rfl (by decide) rfl ?_
      refine ks_sub [(5, _), (0, _), (1, _), (2, _), (3, _)] rfl ?_
      refine ks_goto (tgt := 5) dX15_put_61 (by decide) ?_
      have hcy := dg_cy (X := dg 4294967296 gr k + x * dg 4294967296 gb k) (o := va_up g1 k ((c + (x * gb k + gr k)) % 4294967296)) (t := x * gb k + gr k) (by rw [dg_up_out (Nat.le_refl _)]; exact hd) (va_up_self _ _ _)
      refine ks_sub [(0, _), (1, _), (2, _), (3, _), (5, _)] rfl (ih (k + 1) ((c + (x * gb k + gr k)) / 2 ^ 32) _ _ (by omega) (hu.trans (ks_up_set _ _ (List.mem_singleton.mpr rfl))) (ks_set_same _ _ _) (fun j hj => ?_) (fun j h1 h2 => ?_) (by omega) ?_)
      · by_cases e : j = k
        · subst e; rw [va_up_self]; exact Nat.mod_lt _ (by decide)
        · rw [va_up_ne _ _ e]; exact b1 j hj
      · rw [va_up_ne _ _ (by omega)]; exact hg j (by omega) h2
      · rw [show (2 : Nat) ^ 32 = 4294967296 from rfl, hcy, dg_s, dg_s, Nat.add_mul, Nat.mul_add, Nat.mul_assoc]
        omega
  refine ks_of (by decide) rfl rfl (Nat.le_of_ble_eq_true rfl) ?_
  show ks_X l G mX15_put d 0 [(0, .ref o), (1, .int (nI x)), (2, .ref b)] [] S _
  refine ks_lconst (x := lN 0) dX15_put_0 (by decide) rfl ?_
  refine ks_lstore_n dX15_put_1 (by decide) rfl ?_
  refine ks_sub [(3, _), (0, _), (1, _), (2, _)] rfl ?_
  refine ks_iconst (x := nI 0) dX15_put_2 (by decide) rfl ?_
  refine ks_istore dX15_put_3 (by decide) rfl ?_
  refine ks_sub [(5, _), (0, _), (1, _), (2, _), (3, _)] rfl ?_
  exact ks_sub [(0, _), (1, _), (2, _), (3, _), (5, _)] rfl (loop 8 0 0 S gr rfl (ks_up.rf _ _) er br (fun j _ _ => rfl) (by decide) rfl)
