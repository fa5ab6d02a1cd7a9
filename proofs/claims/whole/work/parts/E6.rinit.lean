/-! RING: its constructor -/
def rgV (a : Int32) : Nat → Int32 → Int32
  | 0, x => x
  | n + 1, x => rgV a n (x * (nI 2 - a * x))
theorem wA_z {S : ks_S} {a : Nat} (h : S.2.2 a = some (kN 8 (fun _ => 0))) : wA S a 0 := ⟨_, h, fun _ _ => by decide, by decide⟩
theorem wA_1 {S : ks_S} {a : Nat} (h : S.2.2 a = some (kN 8 (va_up (fun _ => 0) 0 1))) : wA S a 1 := ⟨_, h, fun j _ => by
  by_cases e : j = 0
  · subst e; decide
  · rw [va_up_ne _ _ e]; decide, by decide⟩
set_option maxRecDepth 100000 in
set_option maxHeartbeats 1600000 in
theorem c_rg_init {l : Launch} {G : ks_G} {d : Nat} {S : ks_S} {o y m mu ri : Nat} (hb : S.2.2 o = some (.inr (18, [.null, .int (nI 0), .null, .null, .null, .null, .null, .null]))) (hS1 : S.1 = o + 1) (hoB : o + 9 < ks_B) (hy : wA S y m) (hyo : y < o) (hN : rgN m mu ri) (hmn : -(rgV (nI (m % 4294967296)) 5 (nI 1)) = nI mu) : ks_P l G yX15_init mX15_init (d + 2) [.ref o, .ref y] S (fun z S' => z = none ∧ S'.1 = o + 8 ∧ S'.2.1 = S.2.1 + 58 ∧ (∀ a, a < o ∨ o + 7 < a → S'.2.2 a = S.2.2 a) ∧ rgF S' o m mu) := by
  obtain ⟨gy, ey, by_, dy⟩ := id hy
  have hy0 : m % 4294967296 = gy 0 := by
    have := dg_dig (B := 4294967296) (by decide) (f := gy) (n := 8) (j := 0) by_ (by decide)
    rw [Nat.pow_zero, Nat.div_one, dy] at this
    exact this
  rw [hy0] at hmn
  have m1 := hN.2.2
  refine ks_of (by decide) rfl rfl (Nat.le_of_ble_eq_true rfl) ?_
  show ks_X l G mX15_init (d + 2) 0 [(0, .ref o), (1, .ref y)] [] S _
  refine ks_aload_n dX15_init_0 rfl rfl ?_
  refine ks_objInit kx_1860 kx_43 kx_44 (by omega) (by decide) dX15_init_1 rfl ?_
  refine ks_aload_n dX15_init_4 rfl rfl ?_
  refine ks_bipush (x := nI 8) dX15_init_5 (by decide) rfl ?_
  refine ks_newNx (N := 8) (x := o + 1) hS1 kx_100 (by decide) (by omega) dX15_init_7 rfl (fun T1 q1 => ?_)
  refine ks_putF (T := TX15) (kf := 0) kx_1878 rfl rfl rfl in_X15 tyX15_ok nmX15 cl_X15 (by decide) ((q1.2.2.2 _ (by omega)).trans hb) (Nat.le_of_ble_eq_true rfl) rfl rfl rfl rfl dX15_init_9 rfl ?_
  refine ks_aload_n dX15_init_12 rfl rfl ?_
  refine ks_bipush (x := nI 8) dX15_init_13 (by decide) rfl ?_
  refine ks_newNx (N := 8) (x := o + 2) q1.1 kx_100 (by decide) (by omega) dX15_init_15 rfl (fun T2 q2 => ?_)
  refine ks_putF (T := TX15) (kf := 2) kx_1881 rfl rfl rfl in_X15 tyX15_ok nmX15 cl_X15 (by decide) ((q2.2.2.2 _ (by omega)).trans (ks_set_same _ _ _)) (Nat.le_of_ble_eq_true rfl) rfl rfl rfl rfl dX15_init_17 rfl ?_
  refine ks_aload_n dX15_init_20 rfl rfl ?_
  refine ks_bipush (x := nI 8) dX15_init_21 (by decide) rfl ?_
  refine ks_newNx (N := 8) (x := o + 3) q2.1 kx_100 (by decide) (by omega) dX15_init_23 rfl (fun T3 q3 => ?_)
  refine ks_putF (T := TX15) (kf := 3) kx_1883 rfl rfl rfl in_X15 tyX15_ok nmX15 cl_X15 (by decide) ((q3.2.2.2 _ (by omega)).trans (ks_set_same _ _ _)) (Nat.le_of_ble_eq_true rfl) rfl rfl rfl rfl dX15_init_25 rfl ?_
  refine ks_aload_n dX15_init_28 rfl rfl ?_
  refine ks_bipush (x := nI 8) dX15_init_29 (by decide) rfl ?_
  refine ks_newNx (N := 8) (x := o + 4) q3.1 kx_100 (by decide) (by omega) dX15_init_31 rfl (fun T4 q4 => ?_)
  refine ks_putF (T := TX15) (kf := 4) kx_1884 rfl rfl rfl in_X15 tyX15_ok nmX15 cl_X15 (by decide) ((q4.2.2.2 _ (by omega)).trans (ks_set_same _ _ _)) (Nat.le_of_ble_eq_true rfl) rfl rfl rfl rfl dX15_init_33 rfl ?_
  refine ks_aload_n dX15_init_36 rfl rfl ?_
  refine ks_bipush (x := nI 10) dX15_init_37 (by decide) rfl ?_
  refine ks_newNx (N := 10) (x := o + 5) q4.1 kx_100 (by decide) (by omega) dX15_init_39 rfl (fun T5 q5 => ?_)
  refine ks_putF (T := TX15) (kf := 5) kx_1885 rfl rfl rfl in_X15 tyX15_ok nmX15 cl_X15 (by decide) ((q5.2.2.2 _ (by omega)).trans (ks_set_same _ _ _)) (Nat.le_of_ble_eq_true rfl) rfl rfl rfl rfl dX15_init_41 rfl ?_
  refine ks_aload_n dX15_init_44 rfl rfl ?_
  refine ks_bipush (x := nI 8) dX15_init_45 (by decide) rfl ?_
  refine ks_newNx (N := 8) (x := o + 6) q5.1 kx_100 (by decide) (by omega) dX15_init_47 rfl (fun T6 q6 => ?_)
  refine ks_putF (T := TX15) (kf := 6) kx_1886 rfl rfl rfl in_X15 tyX15_ok nmX15 cl_X15 (by decide) ((q6.2.2.2 _ (by omega)).trans (ks_set_same _ _ _)) (Nat.le_of_ble_eq_true rfl) rfl rfl rfl rfl dX15_init_49 rfl ?_
  refine ks_aload_n dX15_init_52 rfl rfl ?_
  refine ks_bipush (x := nI 8) dX15_init_53 (by decide) rfl ?_
  refine ks_newNx (N := 8) (x := o + 7) q6.1 kx_100 (by decide) (by omega) dX15_init_55 rfl (fun T7 q7 => ?_)
  refine ks_putF (T := TX15) (kf := 7) kx_1887 rfl rfl rfl in_X15 tyX15_ok nmX15 cl_X15 (by decide) ((q7.2.2.2 _ (by omega)).trans (ks_set_same _ _ _)) (Nat.le_of_ble_eq_true rfl) rfl rfl rfl rfl dX15_init_57 rfl ?_
  refine ks_iconst (x := nI 0) dX15_init_60 (by decide) rfl ?_
  refine ks_istore_n dX15_init_61 (by decide) rfl ?_
  refine ks_sub [(2, _), (0, _), (1, _)] rfl ?_
  have e1 : T1.2.1 = S.2.1 + 8 := q1.2.1
  have e2 : T2.2.1 = T1.2.1 + 8 := q2.2.1
  have e3 : T3.2.1 = T2.2.1 + 8 := q3.2.1
  have e4 : T4.2.1 = T3.2.1 + 8 := q4.2.1
  have e5 : T5.2.1 = T4.2.1 + 10 := q5.2.1
  have e6 : T6.2.1 = T5.2.1 + 8 := q6.2.1
  have e7 : T7.2.1 = T6.2.1 + 8 := q7.2.1
  obtain ⟨S0, hS0⟩ : ∃ S0 : ks_S, S0 = ks_set T7 o (rgO o (nI 0)) := ⟨_, rfl⟩
  refine ks_tS (S' := S0) hS0.symm ?_
  have n0 : S0.1 = o + 8 := by rw [hS0]; exact q7.1
  have sz0 : S0.2.1 = S.2.1 + 58 := by
    rw [hS0]
    show T7.2.1 = _
    omega
  have fr0 : ∀ a9, a9 < o ∨ o + 7 < a9 → S0.2.2 a9 = S.2.2 a9 := fun a9 ha => by rw [hS0]; exact ((ks_set_ne _ _ (by omega)).trans ((q7.2.2.2 _ (by omega)).trans ((ks_set_ne _ _ (by omega)).trans ((q6.2.2.2 _ (by omega)).trans ((ks_set_ne _ _ (by omega)).trans ((q5.2.2.2 _ (by omega)).trans ((ks_set_ne _ _ (by omega)).trans ((q4.2.2.2 _ (by omega)).trans ((ks_set_ne _ _ (by omega)).trans ((q3.2.2.2 _ (by omega)).trans ((ks_set_ne _ _ (by omega)).trans ((q2.2.2.2 _ (by omega)).trans ((ks_set_ne _ _ (by omega)).trans ((q1.2.2.2 _ (by omega)).trans rfl))))))))))))))
  have r0 : S0.2.2 o = some (rgO o (nI 0)) := by rw [hS0]; exact ks_set_same _ _ _
  have c1 : S0.2.2 (o + 1) = some (kN 8 (fun _ => 0)) := by rw [hS0]; exact ((ks_set_ne _ _ (by omega)).trans ((q7.2.2.2 _ (by omega)).trans ((ks_set_ne _ _ (by omega)).trans ((q6.2.2.2 _ (by omega)).trans ((ks_set_ne _ _ (by omega)).trans ((q5.2.2.2 _ (by omega)).trans ((ks_set_ne _ _ (by omega)).trans ((q4.2.2.2 _ (by omega)).trans ((ks_set_ne _ _ (by omega)).trans ((q3.2.2.2 _ (by omega)).trans ((ks_set_ne _ _ (by omega)).trans ((q2.2.2.2 _ (by omega)).trans ((ks_set_ne _ _ (by omega)).trans q1.2.2.1)))))))))))))
  have c2 : S0.2.2 (o + 2) = some (kN 8 (fun _ => 0)) := by rw [hS0]; exact ((ks_set_ne _ _ (by omega)).trans ((q7.2.2.2 _ (by omega)).trans ((ks_set_ne _ _ (by omega)).trans ((q6.2.2.2 _ (by omega)).trans ((ks_set_ne _ _ (by omega)).trans ((q5.2.2.2 _ (by omega)).trans ((ks_set_ne _ _ (by omega)).trans ((q4.2.2.2 _ (by omega)).trans ((ks_set_ne _ _ (by omega)).trans ((q3.2.2.2 _ (by omega)).trans ((ks_set_ne _ _ (by omega)).trans q2.2.2.1)))))))))))
  have c3 : S0.2.2 (o + 3) = some (kN 8 (fun _ => 0)) := by rw [hS0]; exact ((ks_set_ne _ _ (by omega)).trans ((q7.2.2.2 _ (by omega)).trans ((ks_set_ne _ _ (by omega)).trans ((q6.2.2.2 _ (by omega)).trans ((ks_set_ne _ _ (by omega)).trans ((q5.2.2.2 _ (by omega)).trans ((ks_set_ne _ _ (by omega)).trans ((q4.2.2.2 _ (by omega)).trans ((ks_set_ne _ _ (by omega)).trans q3.2.2.1)))))))))
  have c4 : S0.2.2 (o + 4) = some (kN 8 (fun _ => 0)) := by rw [hS0]; exact ((ks_set_ne _ _ (by omega)).trans ((q7.2.2.2 _ (by omega)).trans ((ks_set_ne _ _ (by omega)).trans ((q6.2.2.2 _ (by omega)).trans ((ks_set_ne _ _ (by omega)).trans ((q5.2.2.2 _ (by omega)).trans ((ks_set_ne _ _ (by omega)).trans q4.2.2.1)))))))
  have c5 : S0.2.2 (o + 5) = some (kN 10 (fun _ => 0)) := by rw [hS0]; exact ((ks_set_ne _ _ (by omega)).trans ((q7.2.2.2 _ (by omega)).trans ((ks_set_ne _ _ (by omega)).trans ((q6.2.2.2 _ (by omega)).trans ((ks_set_ne _ _ (by omega)).trans q5.2.2.1)))))
  have c6 : S0.2.2 (o + 6) = some (kN 8 (fun _ => 0)) := by rw [hS0]; exact ((ks_set_ne _ _ (by omega)).trans ((q7.2.2.2 _ (by omega)).trans ((ks_set_ne _ _ (by omega)).trans q6.2.2.1)))
  have c7 : S0.2.2 (o + 7) = some (kN 8 (fun _ => 0)) := by rw [hS0]; exact ((ks_set_ne _ _ (by omega)).trans q7.2.2.1)
  have cy : S0.2.2 y = some (kN 8 gy) := (fr0 y (by omega)).trans ey
  clear hS0
  have lp3 : ∀ (S2 : ks_S), S2.1 = o + 8 → S2.2.1 = S.2.1 + 58 → (∀ a, a < o ∨ o + 7 < a → S2.2.2 a = S.2.2 a) → rgX S2 o m (nI mu) → wA S2 (o + 2) (2 ^ 256 % m) → wA S2 (o + 4) 1 → wA S2 (o + 6) 0 → wA S2 (o + 7) 0 → ∀ (u k : Nat) (S1 : ks_S), k + u = 256 → ks_up S2 S1 [o + 3] → wA S1 (o + 3) (2 ^ (256 + k) % m) → ks_X l G mX15_init (d + 2) 172 [(0, .ref o), (1, .ref y), (3, .int (nI k))] [] S1 (fun z S' => z = none ∧ S'.1 = o + 8 ∧ S'.2.1 = S.2.1 + 58 ∧ (∀ a, a < o ∨ o + 7 < a → S'.2.2 a = S.2.2 a) ∧ rgF S' o m mu) := by
    intro S2 n2 s2 fr2 X2 h22 h24 h26 h27 u
    induction u with
    | zero =>
      intro k S1 hk hu h3
      have X1 := X2.up hu (by simp only [List.mem_cons, List.not_mem_nil, or_false]; omega) (by simp only [List.mem_cons, List.not_mem_nil, or_false]; omega) (by simp only [List.mem_cons, List.not_mem_nil, or_false]; omega)
      have r1 := X1.1
      obtain rfl : k = 256 := hk
      refine ks_iload_n dX15_init_172 rfl rfl ?_
      refine ks_sipush (x := nI 256) dX15_init_173 (by decide) rfl ?_
      refine ks_icmp_geN (tgt := 201) (by decide) (by decide) dX15_init_176 (by decide) rfl (fun _ => ?_) (fun h => absurd h (by decide))
      refine ks_ret rfl dX15_init_201 ?_
      refine ⟨rfl, by rw [hu.1]; exact n2, by rw [hu.2.1]; exact s2, fun a ha => (hu.2.2 a (by rw [List.mem_singleton]; omega)).trans (fr2 a ha), X1, h22.up hu (by simp only [List.mem_cons, List.not_mem_nil, or_false]; omega), h3, h24.up hu (by simp only [List.mem_cons, List.not_mem_nil, or_false]; omega), ⟨0, h26.up hu (by simp only [List.mem_cons, List.not_mem_nil, or_false]; omega)⟩, ⟨0, h27.up hu (by simp only [List.mem_cons, List.not_mem_nil, or_false]; omega)⟩⟩
    | succ u ih =>
      intro k S1 hk hu h3
      have X1 := X2.up hu (by simp only [List.mem_cons, List.not_mem_nil, or_false]; omega) (by simp only [List.mem_cons, List.not_mem_nil, or_false]; omega) (by simp only [List.mem_cons, List.not_mem_nil, or_false]; omega)
      have r1 := X1.1
      refine ks_iload_n dX15_init_172 rfl rfl ?_
      refine ks_sipush (x := nI 256) dX15_init_173 (by decide) rfl ?_
      refine ks_icmp_geN (tgt := 201) (by omega) (by decide) dX15_init_176 (by decide) rfl (fun h1 => absurd h1 (by omega)) (fun h1 => ?_)
      refine ks_aload_n dX15_init_179 rfl rfl ?_
      refine ks_aload_n dX15_init_180 rfl rfl ?_
      refine ks_getf (T := TX15) (kf := 3) kx_1883 rfl in_X15 cl_X15 (by decide) r1 rfl dX15_init_181 rfl ?_
      refine ks_aload_n dX15_init_184 rfl rfl ?_
      refine ks_getf (T := TX15) (kf := 3) kx_1883 rfl in_X15 cl_X15 (by decide) r1 rfl dX15_init_185 rfl ?_
      refine ks_aload_n dX15_init_188 rfl rfl ?_
      refine ks_getf (T := TX15) (kf := 3) kx_1883 rfl in_X15 cl_X15 (by decide) r1 rfl dX15_init_189 rfl ?_
      refine ks_callV (n := 3) (M' := mX15_add) (c_rg_add (d := d) r1 X1.2.1 X1.2.2.2 h3 h3 h3 (by omega) (by omega) (Nat.mod_lt _ (by omega)) (Nat.mod_lt _ (by omega))) r1 cl_X15 rfl kx_1861 kx_1862 kx_1863 kx_33 kx_1864 (by decide +kernel) rfl (by decide) (Nat.le_of_ble_eq_true rfl) rfl dX15_init_192 rfl (fun z1 T1 y1 => ?_)
      obtain ⟨rfl, u1, w1⟩ := y1
      rw [← Nat.add_mod, ← Nat.two_mul, ← Nat.pow_succ'] at w1
      refine ks_incN (c := 1) (e := k + 1) dX15_init_195 rfl (by decide) rfl (by decide) rfl ?_
      refine ks_sub [(3, _), (0, _), (1, _)] rfl ?_
      refine ks_goto (tgt := 172) dX15_init_198 (by decide) ?_
      exact ks_sub [(0, _), (1, _), (3, _)] rfl (ih (k + 1) _ (by omega) (hu.trans u1) w1)
  have lp2 : ∀ (S2 : ks_S), S2.1 = o + 8 → S2.2.1 = S.2.1 + 58 → (∀ a, a < o ∨ o + 7 < a → S2.2.2 a = S.2.2 a) → rgX S2 o m (nI mu) → wA S2 (o + 3) 0 → wA S2 (o + 4) 1 → wA S2 (o + 6) 0 → wA S2 (o + 7) 0 → ∀ (u k : Nat) (S1 : ks_S), k + u = 256 → ks_up S2 S1 [o + 2] → wA S1 (o + 2) (2 ^ k % m) → ks_X l G mX15_init (d + 2) 130 [(0, .ref o), (1, .ref y), (3, .int (nI k))] [] S1 (fun z S' => z = none ∧ S'.1 = o + 8 ∧ S'.2.1 = S.2.1 + 58 ∧ (∀ a, a < o ∨ o + 7 < a → S'.2.2 a = S.2.2 a) ∧ rgF S' o m mu) := by
    intro S2 n2 s2 fr2 X2 h23 h24 h26 h27 u
    induction u with
    | zero =>
      intro k S1 hk hu h2
      have X1 := X2.up hu (by simp only [List.mem_cons, List.not_mem_nil, or_false]; omega) (by simp only [List.mem_cons, List.not_mem_nil, or_false]; omega) (by simp only [List.mem_cons, List.not_mem_nil, or_false]; omega)
      have r1 := X1.1
      obtain rfl : k = 256 := hk
      have h3 := h23.up hu (by simp only [List.mem_cons, List.not_mem_nil, or_false]; omega)
      refine ks_iload_n dX15_init_130 rfl rfl ?_
      refine ks_sipush (x := nI 256) dX15_init_131 (by decide) rfl ?_
      refine ks_icmp_geN (tgt := 159) (by decide) (by decide) dX15_init_134 (by decide) rfl (fun _ => ?_) (fun h => absurd h (by decide))
      refine ks_aload_n dX15_init_159 rfl rfl ?_
      refine ks_getf (T := TX15) (kf := 2) kx_1881 rfl in_X15 cl_X15 (by decide) r1 rfl dX15_init_160 rfl ?_
      refine ks_aload_n dX15_init_163 rfl rfl ?_
      refine ks_getf (T := TX15) (kf := 3) kx_1883 rfl in_X15 cl_X15 (by decide) r1 rfl dX15_init_164 rfl ?_
      refine ks_callS (n := 2) (M' := mX15_copy) (c_rg_copy (d := d + 1) h2 h3 (by omega)) kx_1875 kx_1876 kx_33 kx_1877 (by decide +kernel) rfl (by decide) (Nat.le_of_ble_eq_true rfl) rfl dX15_init_167 rfl (fun z1 T1 y1 => ?_)
      obtain ⟨rfl, u1, w1⟩ := y1
      have X1' := X1.up u1 (by simp only [List.mem_cons, List.not_mem_nil, or_false]; omega) (by simp only [List.mem_cons, List.not_mem_nil, or_false]; omega) (by simp only [List.mem_cons, List.not_mem_nil, or_false]; omega)
      refine ks_iconst (x := nI 0) dX15_init_170 (by decide) rfl ?_
      refine ks_istore_n dX15_init_171 (by decide) rfl ?_
      refine ks_sub [(3, _), (0, _), (1, _)] rfl ?_
      exact ks_sub [(0, _), (1, _), (3, _)] rfl (lp3 T1 (by rw [u1.1, hu.1]; exact n2) (by rw [u1.2.1, hu.2.1]; exact s2) (fun a ha => (u1.2.2 a (by rw [List.mem_singleton]; omega)).trans ((hu.2.2 a (by rw [List.mem_singleton]; omega)).trans (fr2 a ha))) X1' (h2.up u1 (by simp only [List.mem_cons, List.not_mem_nil, or_false]; omega)) ((h24.up hu (by simp only [List.mem_cons, List.not_mem_nil, or_false]; omega)).up u1 (by simp only [List.mem_cons, List.not_mem_nil, or_false]; omega)) ((h26.up hu (by simp only [List.mem_cons, List.not_mem_nil, or_false]; omega)).up u1 (by simp only [List.mem_cons, List.not_mem_nil, or_false]; omega)) ((h27.up hu (by simp only [List.mem_cons, List.not_mem_nil, or_false]; omega)).up u1 (by simp only [List.mem_cons, List.not_mem_nil, or_false]; omega)) 256 0 T1 rfl (ks_up.rf _ _) w1)
    | succ u ih =>
      intro k S1 hk hu h2
      have X1 := X2.up hu (by simp only [List.mem_cons, List.not_mem_nil, or_false]; omega) (by simp only [List.mem_cons, List.not_mem_nil, or_false]; omega) (by simp only [List.mem_cons, List.not_mem_nil, or_false]; omega)
      have r1 := X1.1
      refine ks_iload_n dX15_init_130 rfl rfl ?_
      refine ks_sipush (x := nI 256) dX15_init_131 (by decide) rfl ?_
      refine ks_icmp_geN (tgt := 159) (by omega) (by decide) dX15_init_134 (by decide) rfl (fun h1 => absurd h1 (by omega)) (fun h1 => ?_)
      refine ks_aload_n dX15_init_137 rfl rfl ?_
      refine ks_aload_n dX15_init_138 rfl rfl ?_
      refine ks_getf (T := TX15) (kf := 2) kx_1881 rfl in_X15 cl_X15 (by decide) r1 rfl dX15_init_139 rfl ?_
      refine ks_aload_n dX15_init_142 rfl rfl ?_
      refine ks_getf (T := TX15) (kf := 2) kx_1881 rfl in_X15 cl_X15 (by decide) r1 rfl dX15_init_143 rfl ?_
      refine ks_aload_n dX15_init_146 rfl rfl ?_
      refine ks_getf (T := TX15) (kf := 2) kx_1881 rfl in_X15 cl_X15 (by decide) r1 rfl dX15_init_147 rfl ?_
      refine ks_callV (n := 3) (M' := mX15_add) (c_rg_add (d := d) r1 X1.2.1 X1.2.2.2 h2 h2 h2 (by omega) (by omega) (Nat.mod_lt _ (by omega)) (Nat.mod_lt _ (by omega))) r1 cl_X15 rfl kx_1861 kx_1862 kx_1863 kx_33 kx_1864 (by decide +kernel) rfl (by decide) (Nat.le_of_ble_eq_true rfl) rfl dX15_init_150 rfl (fun z1 T1 y1 => ?_)
      obtain ⟨rfl, u1, w1⟩ := y1
      rw [← Nat.add_mod, ← Nat.two_mul, ← Nat.pow_succ'] at w1
      refine ks_incN (c := 1) (e := k + 1) dX15_init_153 rfl (by decide) rfl (by decide) rfl ?_
      refine ks_sub [(3, _), (0, _), (1, _)] rfl ?_
      refine ks_goto (tgt := 130) dX15_init_156 (by decide) ?_
      exact ks_sub [(0, _), (1, _), (3, _)] rfl (ih (k + 1) _ (by omega) (hu.trans u1) w1)
  have lp1 : ∀ (u i : Nat) (S1 : ks_S) (g1 : Nat → Nat), i + u = 8 → ks_up S0 S1 [o + 1] → S1.2.2 (o + 1) = some (kN 8 g1) → (∀ j, j < i → g1 j = gy j) → ks_X l G mX15_init (d + 2) 62 [(0, .ref o), (1, .ref y), (2, .int (nI i))] [] S1 (fun z S' => z = none ∧ S'.1 = o + 8 ∧ S'.2.1 = S.2.1 + 58 ∧ (∀ a, a < o ∨ o + 7 < a → S'.2.2 a = S.2.2 a) ∧ rgF S' o m mu) := by
    intro u
    induction u with
    | zero =>
      intro i S1 g1 hi hu e1 hl
      have r1 := hu.at r0 (by simp only [List.mem_cons, List.not_mem_nil, or_false]; omega)
      have y1 := hu.at cy (by simp only [List.mem_cons, List.not_mem_nil, or_false]; omega)
      obtain rfl : i = 8 := hi
      have d4 := hu.at c4 (by simp only [List.mem_cons, List.not_mem_nil, or_false]; omega)
      have d2 := hu.at c2 (by simp only [List.mem_cons, List.not_mem_nil, or_false]; omega)
      refine ks_iload_n dX15_init_62 rfl rfl ?_
      refine ks_bipush (x := nI 8) dX15_init_63 (by decide) rfl ?_
      refine ks_icmp_geN (tgt := 83) (by decide) (by decide) dX15_init_65 (by decide) rfl (fun _ => ?_) (fun h => absurd h (by decide))
      refine ks_iconst (x := nI 1) dX15_init_83 (by decide) rfl ?_
      refine ks_istore_n dX15_init_84 (by decide) rfl ?_
      refine ks_sub [(2, _), (0, _), (1, _)] rfl ?_
      refine ks_iconst (x := nI 0) dX15_init_85 (by decide) rfl ?_
      refine ks_istore_n dX15_init_86 (by decide) rfl ?_
      refine ks_sub [(3, _), (0, _), (1, _), (2, _)] rfl ?_
      refine ks_iload_n dX15_init_87 rfl rfl ?_
      refine ks_iconst (x := nI 5) dX15_init_88 (by decide) rfl ?_
      refine ks_icmp_geN (tgt := 108) (by decide) (by decide) dX15_init_89 (by decide) rfl (fun h => absurd h (by decide)) (fun _ => ?_)
      refine ks_iload_n dX15_init_92 rfl rfl ?_
      refine ks_iconst (x := nI 2) dX15_init_93 (by decide) rfl ?_
      refine ks_aload_n dX15_init_94 rfl rfl ?_
      refine ks_iconst (x := nI 0) dX15_init_95 (by decide) rfl ?_
      refine ks_ialdN (i := 0) y1 rfl (by decide) (by decide) dX15_init_96 rfl ?_
      refine ks_iload_n dX15_init_97 rfl rfl ?_
      refine ks_imul dX15_init_98 rfl ?_
      refine ks_isub dX15_init_99 rfl ?_
      refine ks_imul dX15_init_100 rfl ?_
      refine ks_istore_n dX15_init_101 (by decide) rfl ?_
      refine ks_sub [(2, _), (0, _), (1, _), (3, _)] rfl ?_
      refine ks_incN (c := 1) (e := 1) dX15_init_102 rfl (by decide) rfl (by decide) rfl ?_
      refine ks_sub [(3, _), (0, _), (1, _), (2, _)] rfl ?_
      refine ks_goto (tgt := 87) dX15_init_105 (by decide) ?_
      refine ks_iload_n dX15_init_87 rfl rfl ?_
      refine ks_iconst (x := nI 5) dX15_init_88 (by decide) rfl ?_
      refine ks_icmp_geN (tgt := 108) (by decide) (by decide) dX15_init_89 (by decide) rfl (fun h => absurd h (by decide)) (fun _ => ?_)
      refine ks_iload_n dX15_init_92 rfl rfl ?_
      refine ks_iconst (x := nI 2) dX15_init_93 (by decide) rfl ?_
      refine ks_aload_n dX15_init_94 rfl rfl ?_
      refine ks_iconst (x := nI 0) dX15_init_95 (by decide) rfl ?_
      refine ks_ialdN (i := 0) y1 rfl (by decide) (by decide) dX15_init_96 rfl ?_
      refine ks_iload_n dX15_init_97 rfl rfl ?_
      refine ks_imul dX15_init_98 rfl ?_
      refine ks_isub dX15_init_99 rfl ?_
      refine ks_imul dX15_init_100 rfl ?_
      refine ks_istore_n dX15_init_101 (by decide) rfl ?_
      refine ks_sub [(2, _), (0, _), (1, _), (3, _)] rfl ?_
      refine ks_incN (c := 1) (e := 2) dX15_init_102 rfl (by decide) rfl (by decide) rfl ?_
      refine ks_sub [(3, _), (0, _), (1, _), (2, _)] rfl ?_
      refine ks_goto (tgt := 87) dX15_init_105 (by decide) ?_
      refine ks_iload_n dX15_init_87 rfl rfl ?_
      refine ks_iconst (x := nI 5) dX15_init_88 (by decide) rfl ?_
      refine ks_icmp_geN (tgt := 108) (by decide) (by decide) dX15_init_89 (by decide) rfl (fun h => absurd h (by decide)) (fun _ => ?_)
      refine ks_iload_n dX15_init_92 rfl rfl ?_
      refine ks_iconst (x := nI 2) dX15_init_93 (by decide) rfl ?_
      refine ks_aload_n dX15_init_94 rfl rfl ?_
      refine ks_iconst (x := nI 0) dX15_init_95 (by decide) rfl ?_
      refine ks_ialdN (i := 0) y1 rfl (by decide) (by decide) dX15_init_96 rfl ?_
      refine ks_iload_n dX15_init_97 rfl rfl ?_
      refine ks_imul dX15_init_98 rfl ?_
      refine ks_isub dX15_init_99 rfl ?_
      refine ks_imul dX15_init_100 rfl ?_
      refine ks_istore_n dX15_init_101 (by decide) rfl ?_
      refine ks_sub [(2, _), (0, _), (1, _), (3, _)] rfl ?_
      refine ks_incN (c := 1) (e := 3) dX15_init_102 rfl (by decide) rfl (by decide) rfl ?_
      refine ks_sub [(3, _), (0, _), (1, _), (2, _)] rfl ?_
      refine ks_goto (tgt := 87) dX15_init_105 (by decide) ?_
      refine ks_iload_n dX15_init_87 rfl rfl ?_
      refine ks_iconst (x := nI 5) dX15_init_88 (by decide) rfl ?_
      refine ks_icmp_geN (tgt := 108) (by decide) (by decide) dX15_init_89 (by decide) rfl (fun h => absurd h (by decide)) (fun _ => ?_)
      refine ks_iload_n dX15_init_92 rfl rfl ?_
      refine ks_iconst (x := nI 2) dX15_init_93 (by decide) rfl ?_
      refine ks_aload_n dX15_init_94 rfl rfl ?_
      refine ks_iconst (x := nI 0) dX15_init_95 (by decide) rfl ?_
      refine ks_ialdN (i := 0) y1 rfl (by decide) (by decide) dX15_init_96 rfl ?_
      refine ks_iload_n dX15_init_97 rfl rfl ?_
      refine ks_imul dX15_init_98 rfl ?_
      refine ks_isub dX15_init_99 rfl ?_
      refine ks_imul dX15_init_100 rfl ?_
      refine ks_istore_n dX15_init_101 (by decide) rfl ?_
      refine ks_sub [(2, _), (0, _), (1, _), (3, _)] rfl ?_
      refine ks_incN (c := 1) (e := 4) dX15_init_102 rfl (by decide) rfl (by decide) rfl ?_
      refine ks_sub [(3, _), (0, _), (1, _), (2, _)] rfl ?_
      refine ks_goto (tgt := 87) dX15_init_105 (by decide) ?_
      refine ks_iload_n dX15_init_87 rfl rfl ?_
      refine ks_iconst (x := nI 5) dX15_init_88 (by decide) rfl ?_
      refine ks_icmp_geN (tgt := 108) (by decide) (by decide) dX15_init_89 (by decide) rfl (fun h => absurd h (by decide)) (fun _ => ?_)
      refine ks_iload_n dX15_init_92 rfl rfl ?_
      refine ks_iconst (x := nI 2) dX15_init_93 (by decide) rfl ?_
      refine ks_aload_n dX15_init_94 rfl rfl ?_
      refine ks_iconst (x := nI 0) dX15_init_95 (by decide) rfl ?_
      refine ks_ialdN (i := 0) y1 rfl (by decide) (by decide) dX15_init_96 rfl ?_
      refine ks_iload_n dX15_init_97 rfl rfl ?_
      refine ks_imul dX15_init_98 rfl ?_
      refine ks_isub dX15_init_99 rfl ?_
      refine ks_imul dX15_init_100 rfl ?_
      refine ks_istore_n dX15_init_101 (by decide) rfl ?_
      refine ks_sub [(2, _), (0, _), (1, _), (3, _)] rfl ?_
      refine ks_incN (c := 1) (e := 5) dX15_init_102 rfl (by decide) rfl (by decide) rfl ?_
      refine ks_sub [(3, _), (0, _), (1, _), (2, _)] rfl ?_
      refine ks_goto (tgt := 87) dX15_init_105 (by decide) ?_
      refine ks_iload_n dX15_init_87 rfl rfl ?_
      refine ks_iconst (x := nI 5) dX15_init_88 (by decide) rfl ?_
      refine ks_icmp_geN (tgt := 108) (by decide) (by decide) dX15_init_89 (by decide) rfl (fun _ => ?_) (fun h => absurd h (by decide))
      refine ks_aload_n dX15_init_108 rfl rfl ?_
      refine ks_iload_n dX15_init_109 rfl rfl ?_
      refine ks_ineg dX15_init_110 rfl ?_
      refine ks_ti (y := nI mu) hmn ?_
      refine ks_putF (T := TX15) (kf := 1) kx_1880 rfl rfl rfl in_X15 tyX15_ok nmX15 cl_X15 (by decide) r1 (Nat.le_of_ble_eq_true rfl) rfl rfl rfl rfl dX15_init_111 rfl ?_
      refine ks_aload_n dX15_init_114 rfl rfl ?_
      refine ks_getf (T := TX15) (kf := 4) kx_1884 rfl in_X15 cl_X15 (by decide) (ks_set_same _ _ _) rfl dX15_init_115 rfl ?_
      refine ks_iconst (x := nI 0) dX15_init_118 (by decide) rfl ?_
      refine ks_iconst (x := nI 1) dX15_init_119 (by decide) rfl ?_
      refine ks_iastNN (i := 0) (v := 1) (by omega) ((ks_set_ne _ _ (by omega)).trans d4) (by decide) (by decide) dX15_init_120 rfl ?_
      refine ks_aload_n dX15_init_121 rfl rfl ?_
      refine ks_getf (T := TX15) (kf := 2) kx_1881 rfl in_X15 cl_X15 (by decide) ((ks_set_ne _ _ (by omega)).trans (ks_set_same _ _ _)) rfl dX15_init_122 rfl ?_
      refine ks_iconst (x := nI 0) dX15_init_125 (by decide) rfl ?_
      refine ks_iconst (x := nI 1) dX15_init_126 (by decide) rfl ?_
      refine ks_iastNN (i := 0) (v := 1) (by omega) ((ks_set_ne _ _ (by omega)).trans ((ks_set_ne _ _ (by omega)).trans d2)) (by decide) (by decide) dX15_init_127 rfl ?_
      refine ks_iconst (x := nI 0) dX15_init_128 (by decide) rfl ?_
      refine ks_istore_n dX15_init_129 (by decide) rfl ?_
      refine ks_sub [(3, _), (0, _), (1, _), (2, _)] rfl ?_
      obtain ⟨S2, hS2⟩ : ∃ S2 : ks_S, S2 = ks_set (ks_set (ks_set S1 o (rgO o (nI mu))) (o + 4) (kN 8 (va_up (fun _ => 0) 0 1))) (o + 2) (kN 8 (va_up (fun _ => 0) 0 1)) := ⟨_, rfl⟩
      refine ks_tS (S' := S2) hS2.symm ?_
      have u2 : ks_up S1 S2 [o, o + 4, o + 2] := by
        rw [hS2]
        exact ((ks_up_set _ _ (by simp)).trans (ks_up_set _ _ (by simp))).trans (ks_up_set _ _ (by simp))
      have k2 : S2.2.2 (o + 2) = some (kN 8 (va_up (fun _ => 0) 0 1)) := by rw [hS2]; exact ks_set_same _ _ _
      have k4 : S2.2.2 (o + 4) = some (kN 8 (va_up (fun _ => 0) 0 1)) := by rw [hS2]; exact (ks_set_ne _ _ (by omega)).trans (ks_set_same _ _ _)
      have k0 : S2.2.2 o = some (rgO o (nI mu)) := by rw [hS2]; exact (ks_set_ne _ _ (by omega)).trans ((ks_set_ne _ _ (by omega)).trans (ks_set_same _ _ _))
      clear hS2
      have mm : wA S2 (o + 1) m := ⟨g1, u2.at e1 (by simp only [List.mem_cons, List.not_mem_nil, or_false]; omega), fun j hj => by rw [hl j hj]; exact by_ j hj, by rw [dg_congr hl]; exact dy⟩
      have up5 := u2.at (hu.at c5 (by simp only [List.mem_cons, List.not_mem_nil, or_false]; omega)) (by simp only [List.mem_cons, List.not_mem_nil, or_false]; omega)
      have XX : rgX S2 o m (nI mu) := ⟨k0, mm, ⟨_, up5, fun j _ => by decide⟩, by omega⟩
      have h1m : (1 : Nat) = 2 ^ 0 % m := by rw [Nat.pow_zero, Nat.mod_eq_of_lt m1]
      refine ks_sub [(0, _), (1, _), (3, _)] rfl (lp2 S2 (by rw [u2.1, hu.1]; exact n0) (by rw [u2.2.1, hu.2.1]; exact sz0) (fun a ha => (u2.2.2 a (by simp only [List.mem_cons, List.not_mem_nil, or_false]; omega)).trans ((hu.2.2 a (by simp only [List.mem_cons, List.not_mem_nil, or_false]; omega)).trans (fr0 a ha))) XX (wA_z (u2.at (hu.at c3 (by simp only [List.mem_cons, List.not_mem_nil, or_false]; omega)) (by simp only [List.mem_cons, List.not_mem_nil, or_false]; omega))) (wA_1 k4) (wA_z (u2.at (hu.at c6 (by simp only [List.mem_cons, List.not_mem_nil, or_false]; omega)) (by simp only [List.mem_cons, List.not_mem_nil, or_false]; omega))) (wA_z (u2.at (hu.at c7 (by simp only [List.mem_cons, List.not_mem_nil, or_false]; omega)) (by simp only [List.mem_cons, List.not_mem_nil, or_false]; omega))) 256 0 S2 rfl (ks_up.rf _ _) ?_)
      rw [← h1m]
      exact wA_1 k2
    | succ u ih =>
      intro i S1 g1 hi hu e1 hl
      have r1 := hu.at r0 (by simp only [List.mem_cons, List.not_mem_nil, or_false]; omega)
      have y1 := hu.at cy (by simp only [List.mem_cons, List.not_mem_nil, or_false]; omega)
      have i8 : i < 8 := by omega
      refine ks_iload_n dX15_init_62 rfl rfl ?_
      refine ks_bipush (x := nI 8) dX15_init_63 (by decide) rfl ?_
      refine ks_icmp_geN (tgt := 83) (by omega) (by decide) dX15_init_65 (by decide) rfl (fun h1 => absurd h1 (by omega)) (fun h1 => ?_)
      refine ks_aload_n dX15_init_68 rfl rfl ?_
      refine ks_getf (T := TX15) (kf := 0) kx_1878 rfl in_X15 cl_X15 (by decide) r1 rfl dX15_init_69 rfl ?_
      refine ks_iload_n dX15_init_72 rfl rfl ?_
      refine ks_aload_n dX15_init_73 rfl rfl ?_
      refine ks_iload_n dX15_init_74 rfl rfl ?_
      refine ks_ialdN (i := i) y1 rfl (by omega) (by decide) dX15_init_75 rfl ?_
      refine ks_iastNN (i := i) (v := gy i) (by omega) e1 (by omega) (by decide) dX15_init_76 rfl ?_
      refine ks_incN (c := 1) (e := i + 1) dX15_init_77 rfl (by decide) rfl (by decide) rfl ?_
      refine ks_sub [(2, _), (0, _), (1, _)] rfl ?_
      refine ks_goto (tgt := 62) dX15_init_80 (by decide) ?_
      refine ks_sub [(0, _), (1, _), (2, _)] rfl (ih (i + 1) _ (va_up g1 i (gy i)) (by omega) (hu.trans (ks_up_set _ _ (List.mem_singleton.mpr rfl))) (ks_set_same _ _ _) (fun j hj => ?_))
      by_cases e : j = i
      · subst e; exact va_up_self _ _ _
      · rw [va_up_ne _ _ e]; exact hl j (by omega)
  exact ks_sub [(0, _), (1, _), (2, _)] rfl (lp1 8 0 S0 (fun _ => 0) rfl (ks_up.rf _ _) c1 (fun j hj => absurd hj (Nat.not_lt_zero j)))
