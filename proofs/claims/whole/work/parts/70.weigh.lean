/-! CURVE: n times a, weighing -/
theorem nN_lt : nN < 2 ^ 256 := by decide
theorem nN_big : 2 ^ 256 < 2 * nN := by decide
theorem c_sca {l : Launch} {G : ks_G} {d : Nat} {S : ks_S} {Q : Nat → Nat} {o x y : Nat} (h : scX S Q) (ho : o < 5) (hx : x < 5) (hy : y < 5) (hX : Q x < nN) (hY : Q y < nN) : ks_P l G yX5_add mX5_add d [.ref 17, .int (nI (9 * o)), .int (nI (9 * x)), .int (nI (9 * y))] S (fun z S' => z = none ∧ ks_up S S' [18] ∧ scX S' (va_up Q o ((Q x + Q y) % nN))) := by
  have n2 := nN_lt
  refine (c_fd_add h.1 (o := o) (x := x) (y := y) (by omega) (by omega) (by omega) (by omega) (by omega)).mono (fun z S' hq => ?_)
  obtain ⟨h1, h2, h3⟩ := hq
  refine ⟨h1, h2, ?_, (va_up_ne _ _ (by omega)).trans h.2⟩
  rw [h.2] at h3
  have e : (if nN ≤ Q x + Q y then Q x + Q y - nN else Q x + Q y) = (Q x + Q y) % nN := by
    split
    · next h4 => rw [Nat.mod_eq_sub_mod h4, Nat.mod_eq_of_lt (by omega)]
    · next h4 => exact (Nat.mod_eq_of_lt (by omega)).symm
  rw [e] at h3
  exact h3
theorem at_half (n c : Nat) : n / 2 ^ c = 2 * (n / 2 ^ (c + 1)) + n / 2 ^ c % 2 := by
  rw [Nat.pow_succ, ← Nat.div_div_eq_div_mul]
  omega
theorem at_0 {A n c m : Nat} (h : n / 2 ^ c % 2 = 0) : (A * (n / 2 ^ (c + 1)) % m + A * (n / 2 ^ (c + 1)) % m) % m = A * (n / 2 ^ c) % m := by
  have e := at_half n c
  rw [h, Nat.add_zero] at e
  rw [← Nat.add_mod, e, ← Nat.mul_add, Nat.two_mul]
theorem at_1 {A n c m : Nat} (h : n / 2 ^ c % 2 = 1) : ((A * (n / 2 ^ (c + 1)) % m + A * (n / 2 ^ (c + 1)) % m) % m + A) % m = A * (n / 2 ^ c) % m := by
  have e := at_half n c
  rw [h] at e
  rw [← Nat.add_mod, Nat.mod_add_mod, e, Nat.mul_add, Nat.mul_one, Nat.two_mul, Nat.mul_add]
set_option maxRecDepth 100000 in
set_option maxHeartbeats 800000 in
theorem c_cv_addTimes {l : Launch} {G : ks_G} {d : Nat} {S : ks_S} {ir : Bool} {Q : Nat → Nat} {o a n : Nat} (hO : S.2.2 14 = some (cvO ir)) (hQ : scX S Q) (ho : o < 5) (ha : a < 5) (ho2 : o ≠ 2) (ha2 : a ≠ 2) (hn : n < 2 ^ 31) (hqo : Q o < nN) (hqa : Q a < nN) : ks_P l G yX3_addTimes mX3_addTimes (d + 3) [.ref 14, .int (nI (9 * o)), .int (nI (9 * a)), .int (nI n)] S (fun z S' => z = none ∧ ks_up S S' [18] ∧ ∃ Q2, scX S' Q2 ∧ Q2 o = (Q o + Q a * n % nN) % nN ∧ (∀ j, j ≠ o → j ≠ 2 → Q2 j = Q j)) := by
  have loop : ∀ c (S1 : ks_S) (Q1 : Nat → Nat), c ≤ 31 → ks_up S S1 [18] → scX S1 Q1 → Q1 2 = Q a * (n / 2 ^ c) % nN → (∀ j, j ≠ 2 → Q1 j = Q j) → ks_X l G mX3_addTimes (d + 3) 14 [(0, .ref 14), (1, .int (nI (9 * o))), (2, .int (nI (9 * a))), (3, .int (nI n)), (4, .int (nI c - 1))] [] S1 (fun z S' => z = none ∧ ks_up S S' [18] ∧ ∃ Q2, scX S' Q2 ∧ Q2 o = (Q o + Q a * n % nN) % nN ∧ (∀ j, j ≠ o → j ≠ 2 → Q2 j = Q j)) := by
    intro c
    induction c with
    | zero =>
      intro S1 Q1 hc hu hQ1 h2 hj
      have O1 := hu.at hO (by decide)
      have b2 : Q1 2 < nN := by rw [h2]; exact Nat.mod_lt _ (by decide)
      have bo : Q1 o < nN := by rw [hj o ho2]; exact hqo
      have ba : Q1 a < nN := by rw [hj a ha2]; exact hqa
      refine ks_iload dX3_addTimes_14 rfl rfl ?_
      refine ks_if_ltD (tgt := 59) (by omega) dX3_addTimes_16 (by decide) rfl (fun h1 => ?_) (fun h1 => ?_)
      · refine ks_aload_n dX3_addTimes_59 rfl rfl ?_
        refine ks_getf (T := TX3) (kf := 1) kx_536 rfl in_X3 cl_X3 (by decide) O1 rfl dX3_addTimes_60 rfl ?_
        refine ks_iload_n dX3_addTimes_63 rfl rfl ?_
        refine ks_iload_n dX3_addTimes_64 rfl rfl ?_
        refine ks_bipush (x := nI 18) dX3_addTimes_65 (by decide) rfl ?_
        refine ks_callV (n := 3) (M' := mX5_add) (c_sca (d := d + 2) (o := o) (x := o) (y := 2) hQ1 ho ho (by decide) bo b2) hQ1.1.1 cl_X5 rfl kx_514 kx_515 kx_516 kx_5 kx_517 (by decide +kernel) rfl (by decide) (Nat.le_of_ble_eq_true rfl) rfl dX3_addTimes_67 rfl (fun z1 T1 y1 => ?_)
        obtain ⟨rfl, u1, C1⟩ := y1
        rw [h2, hj o ho2, Nat.pow_zero, Nat.div_one] at C1
        refine ks_ret rfl dX3_addTimes_70 ?_
        exact ⟨rfl, hu.trans u1, _, C1, va_up_self _ _ _, fun j h1 h2 => (va_up_ne _ _ h1).trans (hj j h2)⟩
      · exact absurd rfl h1
    | succ c ih =>
      intro S1 Q1 hc hu hQ1 h2 hj
      have O1 := hu.at hO (by decide)
      have b2 : Q1 2 < nN := by rw [h2]; exact Nat.mod_lt _ (by decide)
      have bo : Q1 o < nN := by rw [hj o ho2]; exact hqo
      have ba : Q1 a < nN := by rw [hj a ha2]; exact hqa
      rw [nI_pred]
      have hnc : n / 2 ^ c < 2 ^ 31 := Nat.lt_of_le_of_lt (Nat.div_le_self _ _) hn
      refine ks_iload dX3_addTimes_14 rfl rfl ?_
      refine ks_if_ltN (tgt := 59) (by omega) dX3_addTimes_16 (by decide) rfl ?_
      refine ks_aload_n dX3_addTimes_19 rfl rfl ?_
      refine ks_getf (T := TX3) (kf := 1) kx_536 rfl in_X3 cl_X3 (by decide) O1 rfl dX3_addTimes_20 rfl ?_
      refine ks_bipush (x := nI 18) dX3_addTimes_23 (by decide) rfl ?_
      refine ks_bipush (x := nI 18) dX3_addTimes_25 (by decide) rfl ?_
      refine ks_bipush (x := nI 18) dX3_addTimes_27 (by decide) rfl ?_
      refine ks_callV (n := 3) (M' := mX5_add) (c_sca (d := d + 2) (o := 2) (x := 2) (y := 2) hQ1 (by decide) (by decide) (by decide) b2 b2) hQ1.1.1 cl_X5 rfl kx_514 kx_515 kx_516 kx_5 kx_517 (by decide +kernel) rfl (by decide) (Nat.le_of_ble_eq_true rfl) rfl dX3_addTimes_29 rfl (fun z1 T1 y1 => ?_)
      obtain ⟨rfl, u1, C1⟩ := y1
      rw [h2] at C1
      have O2 := u1.at O1 (by decide)
      have s1 := va_up_self Q1 2 ((Q a * (n / 2 ^ (c + 1)) % nN + Q a * (n / 2 ^ (c + 1)) % nN) % nN)
      have j1 : ∀ j, j ≠ 2 → va_up Q1 2 ((Q a * (n / 2 ^ (c + 1)) % nN + Q a * (n / 2 ^ (c + 1)) % nN) % nN) j = Q j := fun j h => (va_up_ne _ _ h).trans (hj j h)
      generalize va_up Q1 2 ((Q a * (n / 2 ^ (c + 1)) % nN + Q a * (n / 2 ^ (c + 1)) % nN) % nN) = F at *
      refine ks_iload_n dX3_addTimes_32 rfl rfl ?_
      refine ks_iload dX3_addTimes_33 rfl rfl ?_
      refine ks_ushrN (k := c) (s_u _ (by omega)) (by omega) dX3_addTimes_35 rfl ?_
      refine ks_iconst (x := nI 1) dX3_addTimes_36 (by decide) rfl ?_
      refine ks_andN (k := 1) (by omega) (by decide) dX3_addTimes_37 rfl ?_
      refine ks_if_eqN (tgt := 53) (by omega) dX3_addTimes_38 (by decide) rfl (fun h2b => ?_) (fun h2b => ?_)
      · refine ks_incD dX3_addTimes_53 rfl (by decide) (by decide) rfl ?_
        refine ks_sub [(4, _), (0, _), (1, _), (2, _), (3, _)] rfl ?_
        refine ks_goto (tgt := 14) dX3_addTimes_56 (by decide) ?_
        refine ks_sub [(0, _), (1, _), (2, _), (3, _), (4, _)] rfl (ih _ F (by omega) (hu.trans u1) C1 ?_ j1)
        rw [s1]
        exact at_0 h2b
      · refine ks_aload_n dX3_addTimes_41 rfl rfl ?_
        refine ks_getf (T := TX3) (kf := 1) kx_536 rfl in_X3 cl_X3 (by decide) O2 rfl dX3_addTimes_42 rfl ?_
        refine ks_bipush (x := nI 18) dX3_addTimes_45 (by decide) rfl ?_
        refine ks_bipush (x := nI 18) dX3_addTimes_47 (by decide) rfl ?_
        refine ks_iload_n dX3_addTimes_49 rfl rfl ?_
        refine ks_callV (n := 3) (M' := mX5_add) (c_sca (d := d + 2) (o := 2) (x := 2) (y := a) C1 (by decide) (by decide) ha (by rw [s1]; exact Nat.mod_lt _ (by decide)) (by rw [j1 a ha2]; exact hqa)) C1.1.1 cl_X5 rfl kx_514 kx_515 kx_516 kx_5 kx_517 (by decide +kernel) rfl (by decide) (Nat.le_of_ble_eq_true rfl) rfl dX3_addTimes_50 rfl (fun z3 T3 y3 => ?_)
        obtain ⟨rfl, u3, C3⟩ := y3
        rw [s1, j1 a ha2] at C3
        have O3 := u3.at O2 (by decide)
        refine ks_incD dX3_addTimes_53 rfl (by decide) (by decide) rfl ?_
        refine ks_sub [(4, _), (0, _), (1, _), (2, _), (3, _)] rfl ?_
        refine ks_goto (tgt := 14) dX3_addTimes_56 (by decide) ?_
        refine ks_sub [(0, _), (1, _), (2, _), (3, _), (4, _)] rfl (ih _ _ (by omega) (hu.trans (u1.trans u3)) C3 ?_ (fun j h => (va_up_ne _ _ h).trans (j1 j h)))
        rw [va_up_self]
        exact at_1 (by omega)
  refine ks_of (by decide) rfl rfl (Nat.le_of_ble_eq_true rfl) ?_
  show ks_X l G mX3_addTimes (d + 3) 0 [(0, .ref 14), (1, .int (nI (9 * o))), (2, .int (nI (9 * a))), (3, .int (nI n))] [] S _
  refine ks_aload_n dX3_addTimes_0 rfl rfl ?_
  refine ks_getf (T := TX3) (kf := 1) kx_536 rfl in_X3 cl_X3 (by decide) hO rfl dX3_addTimes_1 rfl ?_
  refine ks_bipush (x := nI 18) dX3_addTimes_4 (by decide) rfl ?_
  refine ks_iconst (x := nI 0) dX3_addTimes_6 (by decide) rfl ?_
  refine ks_callV (n := 2) (M' := mX5_loadSmall) (c_fd_loadSmall (d := d) (o := 2) (v := 0) hQ.1 (by decide) (by decide)) hQ.1.1 cl_X5 rfl kx_145 kx_146 kx_147 kx_5 kx_148 (by decide +kernel) rfl (by decide) (Nat.le_of_ble_eq_true rfl) rfl dX3_addTimes_7 rfl (fun z1 T1 y1 => ?_)
  obtain ⟨rfl, u1, f1⟩ := y1
  have O1 := u1.at hO (by decide)
  have C1 : scX T1 (va_up Q 2 0) := ⟨f1, (va_up_ne _ _ (by decide)).trans hQ.2⟩
  refine ks_bipush (x := nI 30) dX3_addTimes_10 (by decide) rfl ?_
  refine ks_ti (y := nI 31 - 1) (by decide) ?_
  refine ks_istore dX3_addTimes_12 (by decide) rfl ?_
  refine ks_sub [(4, _), (0, _), (1, _), (2, _), (3, _)] rfl ?_
  refine ks_sub [(0, _), (1, _), (2, _), (3, _), (4, _)] rfl (loop 31 _ _ (by decide) u1 C1 ?_ (fun j h => va_up_ne _ _ h))
  rw [va_up_self, Nat.div_eq_of_lt hn, Nat.mul_zero, Nat.zero_mod]
set_option maxRecDepth 100000 in
set_option maxHeartbeats 800000 in
theorem c_cv_weigh {l : Launch} {G : ks_G} {d : Nat} {S : ks_S} {ir : Bool} {Q g : Nat → Nat} {y N : Nat} (hO : S.2.2 14 = some (cvO ir)) (hQ : scX S Q) (hy : S.2.2 y = some (kB N g)) (hg : kO g) (hN : N < 2 ^ 20) (hN2 : 32 ≤ N) (hy18 : y ≠ 18) (hr : ir = true → Q 0 < nN) (hs : ir = true → Q 1 < nN) : ks_P l G yX3_weigh mX3_weigh (d + 4) [.ref 14, .ref y] S (fun z S' => z = some (.int (ks_bo ir)) ∧ (ir = false → S' = S) ∧ ks_up S S' [18] ∧ (ir = true → ∃ Q2, scX S' Q2 ∧ Q2 0 = Q 0 ∧ Q2 1 = Q 1 ∧ dvP nN (beN g 0 % nN) (Q 1) (Q2 3) ∧ dvP nN (Q 0) (Q 1) (Q2 4))) := by
  have n2 := nN_lt
  have n3 := nN_big
  refine ks_of (by decide) rfl rfl (Nat.le_of_ble_eq_true rfl) ?_
  show ks_X l G mX3_weigh (d + 4) 0 [(0, .ref 14), (1, .ref y)] [] S _
  refine ks_aload_n dX3_weigh_0 rfl rfl ?_
  refine ks_getf (T := TX3) (kf := 3) kx_538 rfl in_X3 cl_X3 (by decide) hO rfl dX3_weigh_1 rfl ?_
  refine ks_if_neZ (tgt := 9) dX3_weigh_4 (by decide) rfl (fun h1 => ?_) (fun h1 => ?_)
  · subst h1
    have r0 := hr rfl
    have s0 := hs rfl
    have e18 : (18 : Nat) = 9 * 2 := rfl
    have e27 : (27 : Nat) = 9 * 3 := rfl
    have e36 : (36 : Nat) = 9 * 4 := rfl
    have e9 : (9 : Nat) = 9 * 1 := rfl
    have hgN := beN_lt hg 0
    refine ks_aload_n dX3_weigh_9 rfl rfl ?_
    refine ks_getf (T := TX3) (kf := 1) kx_536 rfl in_X3 cl_X3 (by decide) hO rfl dX3_weigh_10 rfl ?_
    refine ks_bipush (x := nI 18) dX3_weigh_13 (by decide) rfl ?_
    refine ks_aload_n dX3_weigh_15 rfl rfl ?_
    refine ks_iconst (x := nI 0) dX3_weigh_16 (by decide) rfl ?_
    refine ks_callV (n := 3) (M' := mX5_load) (c_fd_load (d := d + 3) (o := 2) (i := 0) hQ.1 (by decide) hy hg hN hN2 hy18) hQ.1.1 cl_X5 rfl kx_1365 kx_1366 kx_1367 kx_5 kx_1368 (by decide +kernel) rfl (by decide) (Nat.le_of_ble_eq_true rfl) rfl dX3_weigh_17 rfl (fun z1 T1 y1 => ?_)
    obtain ⟨rfl, u1, f1⟩ := y1
    have O1 := u1.at hO (by decide)
    have Q1 : scX T1 (va_up Q 2 (beN g 0)) := ⟨f1, (va_up_ne _ _ (by decide)).trans hQ.2⟩
    refine ks_aload_n dX3_weigh_20 rfl rfl ?_
    refine ks_getf (T := TX3) (kf := 1) kx_536 rfl in_X3 cl_X3 (by decide) O1 rfl dX3_weigh_21 rfl ?_
    refine ks_bipush (x := nI 18) dX3_weigh_24 (by decide) rfl ?_
    refine ks_callV (n := 1) (M' := mX5_reduce) (c_fd_reduce (d := d + 2) (x := 2) f1 (by decide) (by decide)) Q1.1.1 cl_X5 rfl kx_1370 kx_1371 kx_1372 kx_5 kx_1373 (by decide +kernel) rfl (by decide) (Nat.le_of_ble_eq_true rfl) rfl dX3_weigh_26 rfl (fun z2 T2 y2 => ?_)
    obtain ⟨rfl, u2, f2⟩ := y2
    rw [va_up_self, Q1.2] at f2
    have em : (if beN g 0 < nN then beN g 0 else beN g 0 - nN) = beN g 0 % nN := by
      split
      · next h4 => exact (Nat.mod_eq_of_lt h4).symm
      · next h4 => rw [Nat.mod_eq_sub_mod (by omega), Nat.mod_eq_of_lt (by omega)]
    rw [em, va_up_up] at f2
    have O2 := u2.at O1 (by decide)
    have Q2 : scX T2 (va_up Q 2 (beN g 0 % nN)) := ⟨f2, (va_up_ne _ _ (by decide)).trans hQ.2⟩
    have m2 : va_up Q 2 (beN g 0 % nN) 2 = beN g 0 % nN := va_up_self _ _ _
    have j2 : ∀ j, j ≠ 2 → va_up Q 2 (beN g 0 % nN) j = Q j := fun j h => va_up_ne _ _ h
    have hm : beN g 0 % nN < nN := Nat.mod_lt _ (by decide)
    generalize va_up Q 2 (beN g 0 % nN) = F at *
    refine ks_aload_n dX3_weigh_29 rfl rfl ?_
    refine ks_getf (T := TX3) (kf := 1) kx_536 rfl in_X3 cl_X3 (by decide) O2 rfl dX3_weigh_30 rfl ?_
    refine ks_bipush (x := nI 27) dX3_weigh_33 (by decide) rfl ?_
    refine ks_bipush (x := nI 18) dX3_weigh_35 (by decide) rfl ?_
    refine ks_bipush (x := nI 9) dX3_weigh_37 (by decide) rfl ?_
    refine ks_callV (n := 3) (M' := mX5_divide) (c_fd_divide (d := d) (o := 3) (x := 2) (y := 1) Q2.1 (by decide) (by decide) (by decide) (by rw [Q2.2]; exact n2) (by rw [Q2.2]; decide) (by rw [Q2.2, m2]; exact hm) (by rw [Q2.2, j2 1 (by decide)]; exact s0)) Q2.1.1 cl_X5 rfl kx_1190 kx_1191 kx_1192 kx_5 kx_1193 (by decide +kernel) rfl (by decide) (Nat.le_of_ble_eq_true rfl) rfl dX3_weigh_39 rfl (fun z3 T3 y3 => ?_)
    obtain ⟨rfl, u3, F3, v3, f3, k3, e3, p3⟩ := y3
    rw [Q2.2, m2, j2 1 (by decide)] at p3
    have O3 := u3.at O2 (by decide)
    have Q3 : scX T3 F3 := ⟨f3, (k3 5 (by decide) (by decide)).trans Q2.2⟩
    have a0 : F3 0 = Q 0 := (k3 0 (by decide) (by decide)).trans (j2 0 (by decide))
    have a1 : F3 1 = Q 1 := (k3 1 (by decide) (by decide)).trans (j2 1 (by decide))
    refine ks_aload_n dX3_weigh_42 rfl rfl ?_
    refine ks_getf (T := TX3) (kf := 1) kx_536 rfl in_X3 cl_X3 (by decide) O3 rfl dX3_weigh_43 rfl ?_
    refine ks_bipush (x := nI 36) dX3_weigh_46 (by decide) rfl ?_
    refine ks_iconst (x := nI 0) dX3_weigh_48 (by decide) rfl ?_
    refine ks_bipush (x := nI 9) dX3_weigh_49 (by decide) rfl ?_
    refine ks_callV (n := 3) (M' := mX5_divide) (c_fd_divide (d := d) (o := 4) (x := 0) (y := 1) Q3.1 (by decide) (by decide) (by decide) (by rw [Q3.2]; exact n2) (by rw [Q3.2]; decide) (by rw [Q3.2, a0]; exact r0) (by rw [Q3.2, a1]; exact s0)) Q3.1.1 cl_X5 rfl kx_1190 kx_1191 kx_1192 kx_5 kx_1193 (by decide +kernel) rfl (by decide) (Nat.le_of_ble_eq_true rfl) rfl dX3_weigh_51 rfl (fun z4 T4 y4 => ?_)
    obtain ⟨rfl, u4, F4, v4, f4, k4, e4, p4⟩ := y4
    rw [Q3.2, a0, a1] at p4
    have O4 := u4.at O3 (by decide)
    refine ks_iconst (x := nI 1) dX3_weigh_54 (by decide) rfl ?_
    refine ks_zret rfl rfl dX3_weigh_55 ?_
    refine ⟨rfl, (fun h => by cases h), u1.trans (u2.trans (u3.trans u4)), fun _ => ⟨F4, ⟨f4, (k4 5 (by decide) (by decide)).trans Q3.2⟩, (k4 0 (by decide) (by decide)).trans a0, (k4 1 (by decide) (by decide)).trans a1, ?_, ?_⟩⟩
    · rw [k4 3 (by decide) (by decide), e3]; exact p3
    · rw [e4]; exact p4
  · refine ks_iconst (x := nI 0) dX3_weigh_7 (by decide) rfl ?_
    refine ks_zret rfl rfl dX3_weigh_8 ?_
    subst h1
    exact ⟨rfl, fun _ => rfl, ks_up.rf _ _, fun h => by cases h⟩
