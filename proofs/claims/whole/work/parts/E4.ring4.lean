/-! RING: the product (Montgomery's) -/
theorem mont_eq {r A B m ri : Nat} (hr : r < m) (h : (r * 2 ^ 256) % m = (A * B) % m) (hri : (2 ^ 256 * ri) % m = 1) : r = A * B * ri % m := by
  have e1 : r * (2 ^ 256 * ri) % m = r := by
    rw [Nat.mul_mod, hri, Nat.mul_one, Nat.mod_mod, Nat.mod_eq_of_lt hr]
  rw [← e1, ← Nat.mul_assoc, Nat.mul_mod, h, ← Nat.mul_mod]
/-- one step: X to (X + a B + q m) / W -/
theorem mont_step {X a B m q W Wi D k : Nat} (h : X * Wi = D * B + k * m) (hz : (X + a * B + q * m) % W = 0) : (X + a * B + q * m) / W * (Wi * W) = (D + a * Wi) * B + (k + q * Wi) * m := by
  have e : (X + a * B + q * m) / W * W = X + a * B + q * m := by
    have := Nat.div_add_mod (X + a * B + q * m) W
    rw [hz, Nat.add_zero, Nat.mul_comm] at this
    exact this
  rw [Nat.mul_comm Wi W, ← Nat.mul_assoc, e, Nat.add_mul, Nat.add_mul, h, Nat.add_mul, Nat.add_mul, Nat.mul_right_comm a B Wi, Nat.mul_right_comm q m Wi]
  omega
theorem mont_bd {X a B m q : Nat} (h : X < B + m) (ha : a < 4294967296) (hq : q < 4294967296) : (X + a * B + q * m) / 4294967296 < B + m := by
  rw [Nat.div_lt_iff_lt_mul (by decide)]
  have h1 := Nat.mul_le_mul_right B (Nat.le_sub_one_of_lt ha)
  have h2 := Nat.mul_le_mul_right m (Nat.le_sub_one_of_lt hq)
  omega
theorem mont_z {Y m mu g0 : Nat} (h0 : Y % 4294967296 = g0) (hmu : (mu * m + 1) % 4294967296 = 0) : (Y + g0 * mu % 4294967296 * m) % 4294967296 = 0 := by
  rw [Nat.add_mod, h0, Nat.mul_mod, Nat.mod_mod, ← Nat.mul_mod, Nat.mul_assoc]
  have e : (g0 + g0 * (mu * m)) % 4294967296 = 0 := by
    have : g0 + g0 * (mu * m) = g0 * (mu * m + 1) := by rw [Nat.mul_add, Nat.mul_one]; omega
    rw [this, Nat.mul_mod, hmu, Nat.mul_zero, Nat.zero_mod]
  omega
theorem dg_sh {W : Nat} {g h : Nat → Nat} {n : Nat} (h0 : g 0 = 0) (hW : 0 < W) (e : ∀ j, j < n → h j = g (j + 1)) (en : h n = 0) : dg W h (n + 1) = dg W g (n + 1) / W := by
  rw [dg_s, en, Nat.zero_mul, Nat.add_zero, dg_c, h0, Nat.zero_add, Nat.mul_div_cancel_left _ hW]
  exact dg_congr e
set_option maxRecDepth 100000 in
set_option maxHeartbeats 1600000 in
theorem c_rg_mul {l : Launch} {G : ks_G} {d : Nat} {S : ks_S} {o m a b t A B T mu ri : Nat} (hr : rgX S o m (nI mu)) (hA : wA S a A) (hB : wA S b B) (hT : wA S t T) (ht9 : t < ks_B) (ha9 : a < ks_B) (hb9 : b < ks_B) (htm : t ≠ o + 1 ∧ t ≠ o + 5) (hao : a ≠ o + 5) (hbo : b ≠ o + 5) (hBm : B < m) (hmu : (mu * m + 1) % 4294967296 = 0) (hri : (2 ^ 256 * ri) % m = 1) : ks_P l G yX15_multiply mX15_multiply (d + 1) [.ref o, .ref a, .ref b, .ref t] S (fun z S' => z = none ∧ ks_up S S' [o + 5, t] ∧ (∃ g, S'.2.2 (o + 5) = some (kN 10 g) ∧ ∀ j, j < 10 → g j < 4294967296) ∧ wA S' t (A * B * ri % m)) := by
  have m256 := hr.2.1.lt
  have hto := hT.ne hr.1
  obtain ⟨hro, hm, ⟨gr, er, br⟩, ho9⟩ := hr
  have lA := hA.lt
  obtain ⟨ga, ea, ba, rfl⟩ := hA
  have hB' := hB
  have em1 : ∀ S1 : ks_S, ks_up S S1 [o + 5] → wA S1 (o + 1) m := fun S1 hu => hm.up hu (by rw [List.mem_singleton]; omega)
  have eo1 : ∀ S1 : ks_S, ks_up S S1 [o + 5] → S1.2.2 o = some (rgO o (nI mu)) := fun S1 hu => hu.at hro (by rw [List.mem_singleton]; omega)
  have fin : ∀ (S1 : ks_S) (g1 : Nat → Nat), ks_up S S1 [o + 5] → S1.2.2 (o + 5) = some (kN 10 g1) → (∀ j, j < 10 → g1 j < 4294967296) → dg 4294967296 g1 10 < B + m → (∃ k, dg 4294967296 g1 10 * 4294967296 ^ 8 = dg 4294967296 ga 8 * B + k * m) → ks_X l G mX15_multiply (d + 1) 108 [(0, .ref o), (1, .ref a), (2, .ref b), (3, .ref t)] [] S1 (fun z S' => z = none ∧ ks_up S S' [o + 5, t] ∧ (∃ g, S'.2.2 (o + 5) = some (kN 10 g) ∧ ∀ j, j < 10 → g j < 4294967296) ∧ wA S' t (dg 4294967296 ga 8 * B * ri % m)) := by
    intro S1 g1 hu e1 b1 hX ⟨k, hk⟩
    have r1 := eo1 S1 hu
    have lo8 : dg 4294967296 g1 8 < 2 ^ 256 := dg_lt (fun j hj => b1 j (by omega))
    have e10 : dg 4294967296 g1 10 = dg 4294967296 g1 8 + g1 8 * 2 ^ 256 + g1 9 * 2 ^ 288 := rfl
    have q8 := b1 8 (by decide)
    have q9 : g1 9 = 0 ∧ g1 8 ≤ 1 := by omega
    have tx := hT.up hu (by rw [List.mem_singleton]; exact htm.2)
    have M1 := em1 S1 hu
    rw [show (4294967296 : Nat) ^ 8 = 2 ^ 256 from by decide] at hk
    obtain ⟨V, hV⟩ : ∃ V, dg 4294967296 g1 8 = V := ⟨_, rfl⟩
    obtain ⟨X, hXd⟩ : ∃ X, dg 4294967296 g1 10 = X := ⟨_, rfl⟩
    rw [hXd] at hX hk e10
    rw [hV] at lo8 e10
    have tail : ∀ (bz : Bool) (S2 : ks_S), (bz = true ↔ g1 8 ≠ 0) → ks_up S1 S2 [t] → wA S2 t V → ks_X l G mX15_multiply (d + 1) 152 [(0, .ref o), (1, .ref a), (2, .ref b), (3, .ref t), (4, .int (ks_bo bz))] [] S2 (fun z S' => z = none ∧ ks_up S S' [o + 5, t] ∧ (∃ g, S'.2.2 (o + 5) = some (kN 10 g) ∧ ∀ j, j < 10 → g j < 4294967296) ∧ wA S' t (dg 4294967296 ga 8 * B * ri % m)) := by
      intro bz S2 hbz hu2 w2
      have r2 := hu2.at r1 (by rw [List.mem_singleton]; exact Ne.symm hto)
      have m2 := M1.up hu2 (by rw [List.mem_singleton]; exact Ne.symm htm.1)
      have u12 : ks_up S S2 [o + 5, t] := (hu.mono (by intro x hx; rw [List.mem_singleton] at hx; subst hx; exact List.mem_cons_self)).trans (hu2.mono (by intro x hx; rw [List.mem_singleton] at hx; subst hx; exact List.mem_cons_of_mem _ (List.mem_singleton.mpr rfl)))
      have e5 := hu2.at e1 (by rw [List.mem_singleton]; exact Ne.symm htm.2)
      have key : ∀ r, r < m → (r = X ∨ r + m = X) → r = dg 4294967296 ga 8 * B * ri % m := fun r hrm hrx => mont_eq hrm (by
        rcases hrx with h | h
        · rw [h, hk, Nat.add_mul_mod_self_right]
        · have h2 : (r * 2 ^ 256 + m * 2 ^ 256) = dg 4294967296 ga 8 * B + k * m := by rw [← Nat.add_mul, h]; exact hk
          have h3 : (r * 2 ^ 256 + m * 2 ^ 256) % m = (dg 4294967296 ga 8 * B + k * m) % m := by rw [h2]
          rw [Nat.add_mul_mod_self_left, Nat.add_mul_mod_self_right] at h3
          exact h3) hri
      refine ks_iload dX15_multiply_152 rfl rfl ?_
      refine ks_if_neZ (tgt := 168) dX15_multiply_154 (by decide) rfl (fun h1 => ?_) (fun h1 => ?_)
      · refine ks_aload_n dX15_multiply_168 rfl rfl ?_
        refine ks_aload_n dX15_multiply_169 rfl rfl ?_
        refine ks_getf (T := TX15) (kf := 0) kx_1878 rfl in_X15 cl_X15 (by decide) r2 rfl dX15_multiply_170 rfl ?_
        refine ks_aload_n dX15_multiply_173 rfl rfl ?_
        refine ks_callS (n := 3) (M' := mX15_less) (c_rg_less (d := d) w2 m2 w2 ht9) kx_1872 kx_1873 kx_33 kx_1874 (by decide +kernel) rfl (by decide) (Nat.le_of_ble_eq_true rfl) rfl dX15_multiply_174 rfl (fun z6 T6 y6 => ?_)
        obtain ⟨rfl, u6, w6⟩ := y6
        refine ks_pop2_2 dX15_multiply_177 rfl rfl ?_
        refine ks_ret rfl dX15_multiply_178 ?_
        have h7 := hbz.mp h1
        have h8 : (V + 2 ^ 256 - m) % 2 ^ 256 < m ∧ ((V + 2 ^ 256 - m) % 2 ^ 256 = X ∨ (V + 2 ^ 256 - m) % 2 ^ 256 + m = X) := by
          have : g1 8 = 1 := by omega
          rw [this] at e10
          omega
        rw [key ((V + 2 ^ 256 - m) % 2 ^ 256) h8.1 h8.2] at w6
        exact ⟨rfl, u12.trans (u6.mono (by intro x hx; rw [List.mem_singleton] at hx; subst hx; exact List.mem_cons_of_mem _ (List.mem_singleton.mpr rfl))), ⟨g1, u6.at e5 (by rw [List.mem_singleton]; exact Ne.symm htm.2), b1⟩, w6⟩
      · have h7 : g1 8 = 0 := by
          rcases Nat.eq_zero_or_pos (g1 8) with h | h
          · exact h
          · have := hbz.mpr (by omega); rw [this] at h1; cases h1
        rw [h7, q9.1] at e10
        refine ks_aload_n dX15_multiply_157 rfl rfl ?_
        refine ks_aload_n dX15_multiply_158 rfl rfl ?_
        refine ks_getf (T := TX15) (kf := 0) kx_1878 rfl in_X15 cl_X15 (by decide) r2 rfl dX15_multiply_159 rfl ?_
        refine ks_callS (n := 2) (M' := mX15_compare) (c_rg_compare (d := d) w2 m2 ht9 (by omega)) kx_1869 kx_1870 kx_33 kx_1871 (by decide +kernel) rfl (by decide) (Nat.le_of_ble_eq_true rfl) rfl dX15_multiply_162 rfl (fun z5 T5 y5 => ?_)
        obtain ⟨rfl, hT5⟩ := y5
        obtain rfl := hT5.symm
        refine ks_if_lt (tgt := 178) dX15_multiply_165 (by decide) rfl (fun h2 => ?_) (fun h2 => ?_)
        · refine ks_ret rfl dX15_multiply_178 ?_
          have h3 := cmpN_lt.mp h2
          rw [key V h3 (by omega)] at w2
          exact ⟨rfl, u12, ⟨g1, e5, b1⟩, w2⟩
        · have h3 := mt cmpN_lt.mpr h2
          refine ks_aload_n dX15_multiply_168 rfl rfl ?_
          refine ks_aload_n dX15_multiply_169 rfl rfl ?_
          refine ks_getf (T := TX15) (kf := 0) kx_1878 rfl in_X15 cl_X15 (by decide) r2 rfl dX15_multiply_170 rfl ?_
          refine ks_aload_n dX15_multiply_173 rfl rfl ?_
          refine ks_callS (n := 3) (M' := mX15_less) (c_rg_less (d := d) w2 m2 w2 ht9) kx_1872 kx_1873 kx_33 kx_1874 (by decide +kernel) rfl (by decide) (Nat.le_of_ble_eq_true rfl) rfl dX15_multiply_174 rfl (fun z6 T6 y6 => ?_)
          obtain ⟨rfl, u6, w6⟩ := y6
          refine ks_pop2_2 dX15_multiply_177 rfl rfl ?_
          refine ks_ret rfl dX15_multiply_178 ?_
          have h8 : (V + 2 ^ 256 - m) % 2 ^ 256 < m ∧ ((V + 2 ^ 256 - m) % 2 ^ 256 = X ∨ (V + 2 ^ 256 - m) % 2 ^ 256 + m = X) := by omega
          rw [key ((V + 2 ^ 256 - m) % 2 ^ 256) h8.1 h8.2] at w6
          exact ⟨rfl, u12.trans (u6.mono (by intro x hx; rw [List.mem_singleton] at hx; subst hx; exact List.mem_cons_of_mem _ (List.mem_singleton.mpr rfl))), ⟨g1, u6.at e5 (by rw [List.mem_singleton]; exact Ne.symm htm.2), b1⟩, w6⟩
    have cpy : ∀ (bz : Bool), (bz = true ↔ g1 8 ≠ 0) → ∀ (u i : Nat) (S2 : ks_S) (g2 : Nat → Nat), i + u = 8 → ks_up S1 S2 [t] → S2.2.2 t = some (kN 8 g2) → (∀ j, j < 8 → g2 j < 4294967296) → (∀ j, j < i → g2 j = g1 j) → ks_X l G mX15_multiply (d + 1) 128 [(0, .ref o), (1, .ref a), (2, .ref b), (3, .ref t), (4, .int (ks_bo bz)), (5, .int (nI i))] [] S2 (fun z S' => z = none ∧ ks_up S S' [o + 5, t] ∧ (∃ g, S'.2.2 (o + 5) = some (kN 10 g) ∧ ∀ j, j < 10 → g j < 4294967296) ∧ wA S' t (dg 4294967296 ga 8 * B * ri % m)) := by
      intro bz hbz u
      induction u with
      | zero =>
        intro i S2 g2 hi hu2 e2 b2 hl
        have r2 := hu2.at r1 (by rw [List.mem_singleton]; exact Ne.symm hto)
        have e5 := hu2.at e1 (by rw [List.mem_singleton]; exact Ne.symm htm.2)
        obtain rfl : i = 8 := hi
        refine ks_iload dX15_multiply_128 rfl rfl ?_
        refine ks_bipush (x := nI 8) dX15_multiply_130 (by decide) rfl ?_
        refine ks_icmp_geN (tgt := 152) (by decide) (by decide) dX15_multiply_132 (by decide) rfl (fun _ => ?_) (fun h => absurd h (by decide))
        exact ks_sub [(0, _), (1, _), (2, _), (3, _), (4, _)] rfl (tail bz S2 hbz hu2 ⟨g2, e2, b2, by rw [← hV]; exact dg_congr hl⟩)
      | succ u ih =>
        intro i S2 g2 hi hu2 e2 b2 hl
        have r2 := hu2.at r1 (by rw [List.mem_singleton]; exact Ne.symm hto)
        have e5 := hu2.at e1 (by rw [List.mem_singleton]; exact Ne.symm htm.2)
        have i8 : i < 8 := by omega
        refine ks_iload dX15_multiply_128 rfl rfl ?_
        refine ks_bipush (x := nI 8) dX15_multiply_130 (by decide) rfl ?_
        refine ks_icmp_geN (tgt := 152) (by omega) (by decide) dX15_multiply_132 (by decide) rfl (fun h1 => absurd h1 (by omega)) (fun h1 => ?_)
        refine ks_aload_n dX15_multiply_135 rfl rfl ?_
        refine ks_iload dX15_multiply_136 rfl rfl ?_
        refine ks_aload_n dX15_multiply_138 rfl rfl ?_
        refine ks_getf (T := TX15) (kf := 5) kx_1885 rfl in_X15 cl_X15 (by decide) r2 rfl dX15_multiply_139 rfl ?_
        refine ks_iload dX15_multiply_142 rfl rfl ?_
        refine ks_ialdN (i := i) e5 rfl (by omega) (by decide) dX15_multiply_144 rfl ?_
        refine ks_iastNN (i := i) (v := g1 i) ht9 e2 (by omega) (by decide) dX15_multiply_145 rfl ?_
        refine ks_incN (c := 1) (e := i + 1) dX15_multiply_146 rfl (by decide) rfl (by decide) rfl ?_
        refine ks_sub [(5, _), (0, _), (1, _), (2, _), (3, _), (4, _)] rfl ?_
        refine ks_goto (tgt := 128) dX15_multiply_149 (by decide) ?_
        refine ks_sub [(0, _), (1, _), (2, _), (3, _), (4, _), (5, _)] rfl (ih (i + 1) _ (va_up g2 i (g1 i)) (by omega) (hu2.trans (ks_up_set _ _ (List.mem_singleton.mpr rfl))) (ks_set_same _ _ _) (fun j hj => ?_) (fun j hj => ?_))
        · by_cases e : j = i
          · subst e; rw [va_up_self]; exact b1 j (by omega)
          · rw [va_up_ne _ _ e]; exact b2 j hj
        · by_cases e : j = i
          · subst e; exact va_up_self _ _ _
          · rw [va_up_ne _ _ e]; exact hl j (by omega)
    obtain ⟨gt, et, bt, -⟩ := tx
    refine ks_aload_n dX15_multiply_108 rfl rfl ?_
    refine ks_getf (T := TX15) (kf := 5) kx_1885 rfl in_X15 cl_X15 (by decide) r1 rfl dX15_multiply_109 rfl ?_
    refine ks_bipush (x := nI 8) dX15_multiply_112 (by decide) rfl ?_
    refine ks_ialdN (i := 8) e1 rfl (by decide) (by decide) dX15_multiply_114 rfl ?_
    refine ks_if_eq (tgt := 122) dX15_multiply_115 (by decide) rfl (fun h1 => ?_) (fun h1 => ?_)
    · refine ks_iconst (x := nI 0) dX15_multiply_122 (by decide) rfl ?_
      refine ks_ti (y := ks_bo false) rfl ?_
      refine ks_istore dX15_multiply_123 (by decide) rfl ?_
      refine ks_sub [(4, _), (0, _), (1, _), (2, _), (3, _)] rfl ?_
      refine ks_iconst (x := nI 0) dX15_multiply_125 (by decide) rfl ?_
      refine ks_istore dX15_multiply_126 (by decide) rfl ?_
      refine ks_sub [(5, _), (0, _), (1, _), (2, _), (3, _), (4, _)] rfl ?_
      exact ks_sub [(0, _), (1, _), (2, _), (3, _), (4, _), (5, _)] rfl (cpy false ⟨(fun h => by cases h), fun h => absurd ((nI_eq32 (b := 0) q8 (by decide)).mp h1) h⟩ 8 0 S1 gt rfl (ks_up.rf _ _) et bt (fun j hj => absurd hj (Nat.not_lt_zero j)))
    · refine ks_iconst (x := nI 1) dX15_multiply_118 (by decide) rfl ?_
      refine ks_goto (tgt := 123) dX15_multiply_119 (by decide) ?_
      refine ks_ti (y := ks_bo true) rfl ?_
      refine ks_istore dX15_multiply_123 (by decide) rfl ?_
      refine ks_sub [(4, _), (0, _), (1, _), (2, _), (3, _)] rfl ?_
      refine ks_iconst (x := nI 0) dX15_multiply_125 (by decide) rfl ?_
      refine ks_istore dX15_multiply_126 (by decide) rfl ?_
      refine ks_sub [(5, _), (0, _), (1, _), (2, _), (3, _), (4, _)] rfl ?_
      exact ks_sub [(0, _), (1, _), (2, _), (3, _), (4, _), (5, _)] rfl (cpy true ⟨fun _ h => h1 (by rw [h]; rfl), fun _ => rfl⟩ 8 0 S1 gt rfl (ks_up.rf _ _) et bt (fun j hj => absurd hj (Nat.not_lt_zero j)))
  have shf : ∀ (i : Nat) (g3 : Nat → Nat), i < 8 → (∀ j, j < 10 → g3 j < 4294967296) → (∀ (S4 : ks_S) (g4 : Nat → Nat), ks_up S S4 [o + 5] → S4.2.2 (o + 5) = some (kN 10 g4) → (∀ j, j < 10 → g4 j < 4294967296) → (∀ j, j < 9 → g4 j = g3 (j + 1)) → g4 9 = 0 → ks_X l G mX15_multiply (d + 1) 27 [(0, .ref o), (1, .ref a), (2, .ref b), (3, .ref t), (4, .int (nI (i + 1)))] [] S4 (fun z S' => z = none ∧ ks_up S S' [o + 5, t] ∧ (∃ g, S'.2.2 (o + 5) = some (kN 10 g) ∧ ∀ j, j < 10 → g j < 4294967296) ∧ wA S' t (dg 4294967296 ga 8 * B * ri % m))) → ∀ (u k : Nat) (S3 : ks_S) (g5 : Nat → Nat), k + u = 9 → ks_up S S3 [o + 5] → S3.2.2 (o + 5) = some (kN 10 g5) → (∀ j, j < 10 → g5 j < 4294967296) → (∀ j, j < k → g5 j = g3 (j + 1)) → (∀ j, k ≤ j → j < 10 → g5 j = g3 j) → ks_X l G mX15_multiply (d + 1) 65 [(0, .ref o), (1, .ref a), (2, .ref b), (3, .ref t), (4, .int (nI i)), (5, .int (nI k))] [] S3 (fun z S' => z = none ∧ ks_up S S' [o + 5, t] ∧ (∃ g, S'.2.2 (o + 5) = some (kN 10 g) ∧ ∀ j, j < 10 → g j < 4294967296) ∧ wA S' t (dg 4294967296 ga 8 * B * ri % m)) := by
    intro i g3 i8 b3 kk u
    induction u with
    | zero =>
      intro k S3 g5 hk hu e5 b5 hl hh
      have r3 := eo1 S3 hu
      obtain rfl : k = 9 := hk
      refine ks_iload dX15_multiply_65 rfl rfl ?_
      refine ks_bipush (x := nI 9) dX15_multiply_67 (by decide) rfl ?_
      refine ks_icmp_geN (tgt := 94) (by decide) (by decide) dX15_multiply_69 (by decide) rfl (fun _ => ?_) (fun h => absurd h (by decide))
      refine ks_aload_n dX15_multiply_94 rfl rfl ?_
      refine ks_getf (T := TX15) (kf := 5) kx_1885 rfl in_X15 cl_X15 (by decide) r3 rfl dX15_multiply_95 rfl ?_
      refine ks_bipush (x := nI 9) dX15_multiply_98 (by decide) rfl ?_
      refine ks_iconst (x := nI 0) dX15_multiply_100 (by decide) rfl ?_
      refine ks_iastNN (i := 9) (v := 0) (by omega) e5 (by decide) (by decide) dX15_multiply_101 rfl ?_
      refine ks_incN (c := 1) (e := i + 1) dX15_multiply_102 rfl (by decide) rfl (by decide) rfl ?_
      refine ks_sub [(4, _), (0, _), (1, _), (2, _), (3, _), (5, _)] rfl ?_
      refine ks_goto (tgt := 27) dX15_multiply_105 (by decide) ?_
      refine ks_sub [(0, _), (1, _), (2, _), (3, _), (4, _)] rfl (kk _ (va_up g5 9 0) (hu.trans (ks_up_set _ _ (List.mem_singleton.mpr rfl))) (ks_set_same _ _ _) (fun j hj => ?_) (fun j hj => (va_up_ne _ _ (by omega)).trans (hl j hj)) (va_up_self _ _ _))
      by_cases e : j = 9
      · subst e; rw [va_up_self]; decide
      · rw [va_up_ne _ _ e]; exact b5 j hj
    | succ u ih =>
      intro k S3 g5 hk hu e5 b5 hl hh
      have r3 := eo1 S3 hu
      have k9 : k < 9 := by omega
      have v1 := hh (k + 1) (by omega) (by omega)
      refine ks_iload dX15_multiply_65 rfl rfl ?_
      refine ks_bipush (x := nI 9) dX15_multiply_67 (by decide) rfl ?_
      refine ks_icmp_geN (tgt := 94) (by omega) (by decide) dX15_multiply_69 (by decide) rfl (fun h1 => absurd h1 (by omega)) (fun h1 => ?_)
      refine ks_aload_n dX15_multiply_72 rfl rfl ?_
      refine ks_getf (T := TX15) (kf := 5) kx_1885 rfl in_X15 cl_X15 (by decide) r3 rfl dX15_multiply_73 rfl ?_
      refine ks_iload dX15_multiply_76 rfl rfl ?_
      refine ks_aload_n dX15_multiply_78 rfl rfl ?_
      refine ks_getf (T := TX15) (kf := 5) kx_1885 rfl in_X15 cl_X15 (by decide) r3 rfl dX15_multiply_79 rfl ?_
      refine ks_iload dX15_multiply_82 rfl rfl ?_
      refine ks_iconst (x := nI 1) dX15_multiply_84 (by decide) rfl ?_
      refine ks_addN dX15_multiply_85 rfl ?_
      refine ks_ialdN (i := k + 1) e5 rfl (by omega) (by decide) dX15_multiply_86 rfl ?_
      rw [v1]
      refine ks_iastNN (i := k) (v := g3 (k + 1)) (by omega) e5 (by omega) (by decide) dX15_multiply_87 rfl ?_
      refine ks_incN (c := 1) (e := k + 1) dX15_multiply_88 rfl (by decide) rfl (by decide) rfl ?_
      refine ks_sub [(5, _), (0, _), (1, _), (2, _), (3, _), (4, _)] rfl ?_
      refine ks_goto (tgt := 65) dX15_multiply_91 (by decide) ?_
      refine ks_sub [(0, _), (1, _), (2, _), (3, _), (4, _), (5, _)] rfl (ih (k + 1) _ (va_up g5 k (g3 (k + 1))) (by omega) (hu.trans (ks_up_set _ _ (List.mem_singleton.mpr rfl))) (ks_set_same _ _ _) (fun j hj => ?_) (fun j hj => ?_) (fun j h1 h2 => ?_))
      · by_cases e : j = k
        · subst e; rw [va_up_self]; exact b3 _ (by omega)
        · rw [va_up_ne _ _ e]; exact b5 j hj
      · by_cases e : j = k
        · subst e; exact va_up_self _ _ _
        · rw [va_up_ne _ _ e]; exact hl j (by omega)
      · rw [va_up_ne _ _ (by omega)]; exact hh j (by omega) h2
  have loop : ∀ (u i : Nat) (S1 : ks_S) (g1 : Nat → Nat), i + u = 8 → ks_up S S1 [o + 5] → S1.2.2 (o + 5) = some (kN 10 g1) → (∀ j, j < 10 → g1 j < 4294967296) → dg 4294967296 g1 10 < B + m → (∃ k, dg 4294967296 g1 10 * 4294967296 ^ i = dg 4294967296 ga i * B + k * m) → ks_X l G mX15_multiply (d + 1) 27 [(0, .ref o), (1, .ref a), (2, .ref b), (3, .ref t), (4, .int (nI i))] [] S1 (fun z S' => z = none ∧ ks_up S S' [o + 5, t] ∧ (∃ g, S'.2.2 (o + 5) = some (kN 10 g) ∧ ∀ j, j < 10 → g j < 4294967296) ∧ wA S' t (dg 4294967296 ga 8 * B * ri % m)) := by
    intro u
    induction u with
    | zero =>
      intro i S1 g1 hi hu e1 b1 hX hk
      have r1 := eo1 S1 hu
      have M1 := em1 S1 hu
      have ea1 := hu.at ea (by rw [List.mem_singleton]; exact hao)
      have B1 := hB'.up hu (by rw [List.mem_singleton]; exact hbo)
      obtain rfl : i = 8 := hi
      refine ks_iload dX15_multiply_27 rfl rfl ?_
      refine ks_bipush (x := nI 8) dX15_multiply_29 (by decide) rfl ?_
      refine ks_icmp_geN (tgt := 108) (by decide) (by decide) dX15_multiply_31 (by decide) rfl (fun _ => ?_) (fun h => absurd h (by decide))
      exact ks_sub [(0, _), (1, _), (2, _), (3, _)] rfl (fin S1 g1 hu e1 b1 hX hk)
    | succ u ih =>
      intro i S1 g1 hi hu e1 b1 hX hk
      have r1 := eo1 S1 hu
      have M1 := em1 S1 hu
      have ea1 := hu.at ea (by rw [List.mem_singleton]; exact hao)
      have B1 := hB'.up hu (by rw [List.mem_singleton]; exact hbo)
      have i8 : i < 8 := by omega
      have qa := ba i i8
      obtain ⟨k, hk⟩ := hk
      have hp : ga i * B ≤ 4294967296 * B := Nat.mul_le_mul_right _ (by omega)
      have big : (4294967296 : Nat) ^ 10 = 2 ^ 320 := by decide
      refine ks_iload dX15_multiply_27 rfl rfl ?_
      refine ks_bipush (x := nI 8) dX15_multiply_29 (by decide) rfl ?_
      refine ks_icmp_geN (tgt := 108) (by omega) (by decide) dX15_multiply_31 (by decide) rfl (fun h1 => absurd h1 (by omega)) (fun h1 => ?_)
      refine ks_aload_n dX15_multiply_34 rfl rfl ?_
      refine ks_aload_n dX15_multiply_35 rfl rfl ?_
      refine ks_iload dX15_multiply_36 rfl rfl ?_
      refine ks_ialdN (i := i) ea1 rfl (by omega) (by decide) dX15_multiply_38 rfl ?_
      refine ks_aload_n dX15_multiply_39 rfl rfl ?_
      refine ks_callV (n := 2) (M' := mX15_put) (c_rg_put (d := d) r1 ho9 B1 hbo hb9 qa e1 b1 (by rw [big]; omega)) r1 cl_X15 rfl kx_1925 kx_1927 kxp_52 kx_33 kx_1928 (by decide +kernel) rfl (by decide) (Nat.le_of_ble_eq_true rfl) rfl dX15_multiply_40 rfl (fun z2 T2 y2 => ?_)
      obtain ⟨rfl, u2, g2, e2, b2, d2⟩ := y2
      have hu2 := hu.trans u2
      have r2 := eo1 T2 hu2
      have M2 := em1 T2 hu2
      refine ks_aload_n dX15_multiply_43 rfl rfl ?_
      refine ks_aload_n dX15_multiply_44 rfl rfl ?_
      refine ks_getf (T := TX15) (kf := 5) kx_1885 rfl in_X15 cl_X15 (by decide) r2 rfl dX15_multiply_45 rfl ?_
      refine ks_iconst (x := nI 0) dX15_multiply_48 (by decide) rfl ?_
      refine ks_ialdN (i := 0) e2 rfl (by decide) (by decide) dX15_multiply_49 rfl ?_
      refine ks_aload_n dX15_multiply_50 rfl rfl ?_
      refine ks_getf (T := TX15) (kf := 1) kx_1880 rfl in_X15 cl_X15 (by decide) r2 rfl dX15_multiply_51 rfl ?_
      refine ks_mulN dX15_multiply_54 rfl ?_
      refine ks_ti (y := nI (g2 0 * mu % 4294967296)) (nI_mod _) ?_
      have qq : g2 0 * mu % 4294967296 < 4294967296 := Nat.mod_lt _ (by decide)
      have hq : g2 0 * mu % 4294967296 * m ≤ 4294967296 * m := Nat.mul_le_mul_right _ (by omega)
      refine ks_aload_n dX15_multiply_55 rfl rfl ?_
      refine ks_getf (T := TX15) (kf := 0) kx_1878 rfl in_X15 cl_X15 (by decide) r2 rfl dX15_multiply_56 rfl ?_
      refine ks_callV (n := 2) (M' := mX15_put) (c_rg_put (d := d) r2 ho9 M2 (by omega) (by omega) qq e2 b2 (by rw [big, d2]; omega)) r2 cl_X15 rfl kx_1925 kx_1927 kxp_52 kx_33 kx_1928 (by decide +kernel) rfl (by decide) (Nat.le_of_ble_eq_true rfl) rfl dX15_multiply_59 rfl (fun z3 T3 y3 => ?_)
      obtain ⟨rfl, u3, g3, e3, b3, d3⟩ := y3
      have hu3 := hu2.trans u3
      rw [d2] at d3
      have h20 : (dg 4294967296 g1 10 + ga i * B) % 4294967296 = g2 0 := by
        rw [← d2]
        have := dg_dig (B := 4294967296) (by decide) (f := g2) (n := 10) (j := 0) b2 (by decide)
        rw [Nat.pow_zero, Nat.div_one] at this
        exact this
      have hz := mont_z (m := m) h20 hmu
      have g30 : g3 0 = 0 := by
        have := dg_dig (B := 4294967296) (by decide) (f := g3) (n := 10) (j := 0) b3 (by decide)
        rw [Nat.pow_zero, Nat.div_one, d3, hz] at this
        exact this.symm
      have st := mont_step (W := 4294967296) hk hz
      have bd := mont_bd hX qa qq
      refine ks_iconst (x := nI 0) dX15_multiply_62 (by decide) rfl ?_
      refine ks_istore dX15_multiply_63 (by decide) rfl ?_
      refine ks_sub [(5, _), (0, _), (1, _), (2, _), (3, _), (4, _)] rfl ?_
      refine ks_sub [(0, _), (1, _), (2, _), (3, _), (4, _), (5, _)] rfl (shf i g3 i8 b3 (fun S4 g4 hu4 e4 b4 hl h9 => ?_) 9 0 T3 g3 rfl hu3 e3 b3 (fun j hj => absurd hj (Nat.not_lt_zero j)) (fun j _ _ => rfl))
      have d4 := dg_sh (W := 4294967296) (g := g3) (h := g4) (n := 9) g30 (by decide) hl h9
      rw [d3] at d4
      refine ih (i + 1) S4 g4 (by omega) hu4 e4 b4 (by rw [d4]; exact bd) ⟨k + g2 0 * mu % 4294967296 * 4294967296 ^ i, ?_⟩
      rw [d4, Nat.pow_succ, dg_s]
      exact st
  have zer : ∀ (u i : Nat) (S1 : ks_S) (g1 : Nat → Nat), i + u = 10 → ks_up S S1 [o + 5] → S1.2.2 (o + 5) = some (kN 10 g1) → (∀ j, j < i → g1 j = 0) → ks_X l G mX15_multiply (d + 1) 3 [(0, .ref o), (1, .ref a), (2, .ref b), (3, .ref t), (4, .int (nI i))] [] S1 (fun z S' => z = none ∧ ks_up S S' [o + 5, t] ∧ (∃ g, S'.2.2 (o + 5) = some (kN 10 g) ∧ ∀ j, j < 10 → g j < 4294967296) ∧ wA S' t (dg 4294967296 ga 8 * B * ri % m)) := by
    intro u
    induction u with
    | zero =>
      intro i S1 g1 hi hu e1 hl
      have r1 := eo1 S1 hu
      obtain rfl : i = 10 := hi
      refine ks_iload dX15_multiply_3 rfl rfl ?_
      refine ks_bipush (x := nI 10) dX15_multiply_5 (by decide) rfl ?_
      refine ks_icmp_geN (tgt := 24) (by decide) (by decide) dX15_multiply_7 (by decide) rfl (fun _ => ?_) (fun h => absurd h (by decide))
      refine ks_iconst (x := nI 0) dX15_multiply_24 (by decide) rfl ?_
      refine ks_istore dX15_multiply_25 (by decide) rfl ?_
      refine ks_sub [(4, _), (0, _), (1, _), (2, _), (3, _)] rfl ?_
      have d0 : dg 4294967296 g1 10 = 0 := dg_0 hl
      exact ks_sub [(0, _), (1, _), (2, _), (3, _), (4, _)] rfl (loop 8 0 S1 g1 rfl hu e1 (fun j hj => by rw [hl j hj]; decide) (by omega) ⟨0, by rw [d0]; show 0 * _ = 0 * B + 0 * m; omega⟩)
    | succ u ih =>
      intro i S1 g1 hi hu e1 hl
      have r1 := eo1 S1 hu
      have i8 : i < 10 := by omega
      refine ks_iload dX15_multiply_3 rfl rfl ?_
      refine ks_bipush (x := nI 10) dX15_multiply_5 (by decide) rfl ?_
      refine ks_icmp_geN (tgt := 24) (by omega) (by decide) dX15_multiply_7 (by decide) rfl (fun h1 => absurd h1 (by omega)) (fun h1 => ?_)
      refine ks_aload_n dX15_multiply_10 rfl rfl ?_
      refine ks_getf (T := TX15) (kf := 5) kx_1885 rfl in_X15 cl_X15 (by decide) r1 rfl dX15_multiply_11 rfl ?_
      refine ks_iload dX15_multiply_14 rfl rfl ?_
      refine ks_iconst (x := nI 0) dX15_multiply_16 (by decide) rfl ?_
      refine ks_iastNN (i := i) (v := 0) (by omega) e1 (by omega) (by decide) dX15_multiply_17 rfl ?_
      refine ks_incN (c := 1) (e := i + 1) dX15_multiply_18 rfl (by decide) rfl (by decide) rfl ?_
      refine ks_sub [(4, _), (0, _), (1, _), (2, _), (3, _)] rfl ?_
      refine ks_goto (tgt := 3) dX15_multiply_21 (by decide) ?_
      refine ks_sub [(0, _), (1, _), (2, _), (3, _), (4, _)] rfl (ih (i + 1) _ (va_up g1 i 0) (by omega) (hu.trans (ks_up_set _ _ (List.mem_singleton.mpr rfl))) (ks_set_same _ _ _) (fun j hj => ?_))
      by_cases e : j = i
      · subst e; exact va_up_self _ _ _
      · rw [va_up_ne _ _ e]; exact hl j (by omega)
  refine ks_of (by decide) rfl rfl (Nat.le_of_ble_eq_true rfl) ?_
  show ks_X l G mX15_multiply (d + 1) 0 [(0, .ref o), (1, .ref a), (2, .ref b), (3, .ref t)] [] S _
  refine ks_iconst (x := nI 0) dX15_multiply_0 (by decide) rfl ?_
  refine ks_istore dX15_multiply_1 (by decide) rfl ?_
  refine ks_sub [(4, _), (0, _), (1, _), (2, _), (3, _)] rfl ?_
  exact ks_sub [(0, _), (1, _), (2, _), (3, _), (4, _)] rfl (zer 10 0 S gr rfl (ks_up.rf _ _) er (fun j hj => absurd hj (Nat.not_lt_zero j)))
