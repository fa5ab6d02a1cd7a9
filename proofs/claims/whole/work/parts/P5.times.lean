/-! THE REFERENCE: products of rows of sixteen bits -/
theorem dg_set {B : Nat} {f : Nat → Nat} {x w : Nat} : ∀ {n : Nat}, x < n → dg B (va_up f x w) n + f x * B ^ x = dg B f n + w * B ^ x
  | 0, h => absurd h (Nat.not_lt_zero _)
  | n + 1, h => by
    rw [dg_s, dg_s]
    by_cases e : x = n
    · subst e
      rw [va_up_self, dg_congr (g := f) (fun k hk => va_up_ne _ _ (by omega))]
      omega
    · rw [va_up_ne _ _ (fun h => e h.symm)]
      have := dg_set (B := B) (f := f) (w := w) (n := n) (show x < n by omega)
      omega
theorem dg_adv {B : Nat} {f : Nat → Nat} {x v n : Nat} (h : x < n) : dg B (va_up f x (f x + v)) n = dg B f n + v * B ^ x := by
  have := dg_set (B := B) (f := f) (w := f x + v) h
  rw [Nat.add_mul] at this
  omega
theorem dg_carry {f : Nat → Nat} {i n : Nat} (h : i + 1 < n) : dg 65536 (va_up (va_up f (i + 1) (f (i + 1) + f i / 2 ^ 16)) i (f i % 65536)) n = dg 65536 f n := by
  have h1 := dg_adv (B := 65536) (f := f) (v := f i / 2 ^ 16) h
  have h2 := dg_set (B := 65536) (f := va_up f (i + 1) (f (i + 1) + f i / 2 ^ 16)) (w := f i % 65536) (show i < n by omega)
  rw [va_up_ne _ _ (show i ≠ i + 1 by omega)] at h2
  have h3 : f i * 65536 ^ i = f i / 2 ^ 16 * 65536 ^ (i + 1) + f i % 65536 * 65536 ^ i := by
    rw [show (65536 : Nat) ^ (i + 1) = 65536 * 65536 ^ i from by rw [Nat.pow_succ, Nat.mul_comm], ← Nat.mul_assoc, ← Nat.add_mul]
    congr 1
    have : (2 : Nat) ^ 16 = 65536 := by decide
    rw [this]
    omega
  omega
set_option maxRecDepth 100000 in
set_option maxHeartbeats 800000 in
theorem l_tmC {l : Launch} {G : ks_G} {d : Nat} {S : ks_S} {V : Nat → Value} {a b na nb k : Nat} {fa fo : Nat → Nat} (hO : S.2.2 290 = some (rfE V)) (ha : S.2.2 a = some (kL na fa)) (h296 : S.2.2 296 = some (kL 3 fo)) (hab : a ≠ b) (hb6 : b ≠ 296) (hb0 : b ≠ 290) (hk : k ≤ 6) (hna : k ≤ na) (hna9 : na ≤ 100) (hnb : k + 3 ≤ nb) (hnb9 : nb ≤ 100) (hfa : ∀ j, j < k → fa j < 65536) (hfo : ∀ j, j < 3 → fo j < 65536) {P0 : Nat} (hP0 : P0 < 65536 ^ (k + 3)) {P9 : Option Value → ks_S → Prop} (hk9 : ∀ (S1 : ks_S) (f : Nat → Nat), ks_up S S1 [b] → S1.2.2 b = some (kL nb f) → (∀ j, j < k + 3 → f j < 65536) → dg 65536 f (k + 3) = P0 → P9 none S1) : ∀ (u i : Nat) (S1 : ks_S) (f : Nat → Nat), i + u = k + 2 → ks_up S S1 [b] → S1.2.2 b = some (kL nb f) → (∀ x, x < i → f x < 65536) → f i ≤ 2 ^ 39 → (∀ x, i < x → x < k + 3 → f x ≤ 2 ^ 38) → dg 65536 f (k + 3) = P0 → ks_X l G mX16_times d 77 [(0, .ref 290), (1, .ref a), (2, .int (nI k)), (3, .ref b), (4, .int (nI i))] [] S1 P9 := by
  intro u
  induction u with
  | zero =>
    intro i S1 f hi hu e1 h1 h2 h3 hd
    have o1 := hu.at hO (by rw [List.mem_singleton]; omega)
    have a1 := hu.at ha (by rw [List.mem_singleton]; omega)
    have w1 := hu.at h296 (by rw [List.mem_singleton]; omega)
    refine ks_iload dX16_times_77 rfl rfl ?_
    refine ks_iconst (x := nI 1) dX16_times_79 (by decide) rfl ?_
    refine ks_addN dX16_times_80 rfl ?_
    refine ks_iload_n dX16_times_81 rfl rfl ?_
    refine ks_iconst (x := nI 3) dX16_times_82 (by decide) rfl ?_
    refine ks_addN dX16_times_83 rfl ?_
    refine ks_icmp_geN (tgt := 119) (by omega) (by omega) dX16_times_84 (by decide) rfl (fun h9 => ?_) (fun h9 => absurd h9 (by omega))
    refine ks_ret rfl dX16_times_119 ?_
    refine hk9 S1 f hu e1 (fun j hj => ?_) hd
    by_cases h : j < i
    · exact h1 j h
    · obtain rfl : j = i := by omega
      rw [show k + 3 = j + 1 by omega, dg_s] at hd
      rw [show k + 3 = j + 1 by omega, Nat.pow_succ, Nat.mul_comm] at hP0
      exact Nat.lt_of_mul_lt_mul_right (a := 65536 ^ j) (by omega)
  | succ u ih =>
    intro i S1 f hi hu e1 h1 h2 h3 hd
    have o1 := hu.at hO (by rw [List.mem_singleton]; omega)
    have a1 := hu.at ha (by rw [List.mem_singleton]; omega)
    have w1 := hu.at h296 (by rw [List.mem_singleton]; omega)
    refine ks_iload dX16_times_77 rfl rfl ?_
    refine ks_iconst (x := nI 1) dX16_times_79 (by decide) rfl ?_
    refine ks_addN dX16_times_80 rfl ?_
    refine ks_iload_n dX16_times_81 rfl rfl ?_
    refine ks_iconst (x := nI 3) dX16_times_82 (by decide) rfl ?_
    refine ks_addN dX16_times_83 rfl ?_
    refine ks_icmp_geN (tgt := 119) (by omega) (by omega) dX16_times_84 (by decide) rfl (fun h9 => absurd h9 (by omega)) (fun h9 => ?_)
    have h4 := h3 (i + 1) (by omega) (by omega)
    refine ks_aload_n dX16_times_87 rfl rfl ?_
    refine ks_iload dX16_times_88 rfl rfl ?_
    refine ks_iconst (x := nI 1) dX16_times_90 (by decide) rfl ?_
    refine ks_addN dX16_times_91 rfl ?_
    refine ks_dup2_11 dX16_times_92 rfl rfl rfl ?_
    refine ks_laldN (i := i + 1) e1 rfl (by omega) (by omega) dX16_times_93 rfl ?_
    refine ks_aload_n dX16_times_94 rfl rfl ?_
    refine ks_iload dX16_times_95 rfl rfl ?_
    refine ks_laldN (i := i) e1 rfl (by omega) (by omega) dX16_times_97 rfl ?_
    refine ks_bipush (x := nI 16) dX16_times_98 (by decide) rfl ?_
    refine ks_lshrN (k := 16) (by decide) (by decide) (by omega) dX16_times_100 rfl ?_
    refine ks_laddN dX16_times_101 rfl ?_
    refine ks_lastNN (i := i + 1) (v := f (i + 1) + ((f i) / 2 ^ 16)) e1 (by omega) (by omega) dX16_times_102 rfl ?_
    refine ks_aload_n dX16_times_103 rfl rfl ?_
    refine ks_iload dX16_times_104 rfl rfl ?_
    refine ks_dup2_11 dX16_times_106 rfl rfl rfl ?_
    refine ks_laldN (i := i) (ks_set_same _ _ _) rfl (by omega) (by omega) dX16_times_107 rfl ?_
    rw [va_up_ne _ _ (show i ≠ i + 1 by omega)]
    refine ks_ldc2 dX16_times_108 kx_1912 rfl ?_
    refine ks_tl (y := lN 65535) rfl ?_
    refine ks_landN (k := 16) (p := 65536) (by decide) (by decide) (by decide) (by omega) dX16_times_111 rfl ?_
    refine ks_lastNN (i := i) (v := (f i) % 65536) (ks_set_same _ _ _) (by omega) (by omega) dX16_times_112 rfl ?_
    refine ks_incN (c := 1) (e := i + 1) dX16_times_113 rfl (by decide) rfl (by decide) rfl ?_
    refine ks_sub [(4, _), (0, _), (1, _), (2, _), (3, _)] rfl ?_
    refine ks_goto (tgt := 77) dX16_times_116 (by decide) ?_
    refine ks_sub [(0, _), (1, _), (2, _), (3, _), (4, _)] rfl (ih (i + 1) _ (va_up (va_up f (i + 1) (f (i + 1) + f i / 2 ^ 16)) i (f i % 65536)) (by omega) ((hu.trans (ks_up_set _ _ (List.mem_singleton.mpr rfl))).trans (ks_up_set _ _ (List.mem_singleton.mpr rfl))) ?_ (fun x hx => ?_) ?_ (fun x hx1 hx2 => ?_) ((dg_carry (by omega)).trans hd))
    · exact ks_set_same _ _ _
    · by_cases h : x = i
      · rw [h, va_up_self]
        exact Nat.mod_lt _ (by decide)
      · rw [va_up_ne _ _ h, va_up_ne _ _ (by omega)]
        exact h1 x (by omega)
    · rw [va_up_ne _ _ (show i + 1 ≠ i by omega), va_up_self]
      have : f i / 2 ^ 16 ≤ 2 ^ 23 := by omega
      omega
    · rw [va_up_ne _ _ (by omega), va_up_ne _ _ (by omega)]
      exact h3 x (by omega) hx2
set_option maxRecDepth 100000 in
set_option maxHeartbeats 800000 in
theorem l_tmI {l : Launch} {G : ks_G} {d : Nat} {S : ks_S} {V : Nat → Value} {a b na nb k : Nat} {fa fo : Nat → Nat} (hO : S.2.2 290 = some (rfE V)) (ha : S.2.2 a = some (kL na fa)) (h296 : S.2.2 296 = some (kL 3 fo)) (hab : a ≠ b) (hb6 : b ≠ 296) (hb0 : b ≠ 290) (hk : k ≤ 6) (hna : k ≤ na) (hna9 : na ≤ 100) (hnb : k + 3 ≤ nb) (hnb9 : nb ≤ 100) (hfa : ∀ j, j < k → fa j < 65536) (hfo : ∀ j, j < 3 → fo j < 65536) {i : Nat} (hi : i < k) {P9 : Option Value → ks_S → Prop} (hk9 : ∀ (S1 : ks_S) (f : Nat → Nat), ks_up S S1 [b] → S1.2.2 b = some (kL nb f) → (∀ x, x < k + 3 → f x ≤ (3 * i + 3) * 2 ^ 32) → dg 65536 f (k + 3) = dg 65536 fa i * dg 65536 fo 3 + fa i * dg 65536 fo 3 * 65536 ^ i → ks_X l G mX16_times d 68 [(0, .ref 290), (1, .ref a), (2, .int (nI k)), (3, .ref b), (4, .int (nI i))] [] S1 P9) : ∀ (u j : Nat) (S1 : ks_S) (f : Nat → Nat), j + u = 3 → ks_up S S1 [b] → S1.2.2 b = some (kL nb f) → (∀ x, x < k + 3 → f x ≤ (3 * i + j) * 2 ^ 32) → dg 65536 f (k + 3) = dg 65536 fa i * dg 65536 fo 3 + fa i * dg 65536 fo j * 65536 ^ i → ks_X l G mX16_times d 34 [(0, .ref 290), (1, .ref a), (2, .int (nI k)), (3, .ref b), (4, .int (nI i)), (5, .int (nI j))] [] S1 P9 := by
  intro u
  induction u with
  | zero =>
    intro j S1 f hj hu e1 hb hd
    obtain rfl : j = 3 := hj
    have o1 := hu.at hO (by rw [List.mem_singleton]; omega)
    have a1 := hu.at ha (by rw [List.mem_singleton]; omega)
    have w1 := hu.at h296 (by rw [List.mem_singleton]; omega)
    refine ks_iload dX16_times_34 rfl rfl ?_
    refine ks_iconst (x := nI 3) dX16_times_36 (by decide) rfl ?_
    refine ks_icmp_geN (tgt := 68) (by decide) (by decide) dX16_times_37 (by decide) rfl (fun h9 => ?_) (fun h9 => ?_)
    · exact ks_sub [(0, _), (1, _), (2, _), (3, _), (4, _)] rfl (hk9 S1 f hu e1 hb hd)
    · exact absurd h9 (by decide)
  | succ u ih =>
    intro j S1 f hj hu e1 hb hd
    have o1 := hu.at hO (by rw [List.mem_singleton]; omega)
    have a1 := hu.at ha (by rw [List.mem_singleton]; omega)
    have w1 := hu.at h296 (by rw [List.mem_singleton]; omega)
    refine ks_iload dX16_times_34 rfl rfl ?_
    refine ks_iconst (x := nI 3) dX16_times_36 (by decide) rfl ?_
    refine ks_icmp_geN (tgt := 68) (by omega) (by decide) dX16_times_37 (by decide) rfl (fun h9 => absurd h9 (by omega)) (fun h9 => ?_)
    refine ks_aload_n dX16_times_40 rfl rfl ?_
    refine ks_iload dX16_times_41 rfl rfl ?_
    refine ks_iload dX16_times_43 rfl rfl ?_
    refine ks_addN dX16_times_45 rfl ?_
    refine ks_dup2_11 dX16_times_46 rfl rfl rfl ?_
    refine ks_laldN (i := i + j) e1 rfl (by omega) (by omega) dX16_times_47 rfl ?_
    refine ks_aload_n dX16_times_48 rfl rfl ?_
    refine ks_iload dX16_times_49 rfl rfl ?_
    refine ks_laldN (i := i) a1 rfl (by omega) (by omega) dX16_times_51 rfl ?_
    refine ks_aload_n dX16_times_52 rfl rfl ?_
    refine ks_getf (T := TX16) (kf := 5) kx_2373 rfl in_X16 cl_X16 (by decide) o1 rfl dX16_times_53 rfl ?_
    refine ks_iload dX16_times_56 rfl rfl ?_
    refine ks_laldN (i := j) w1 rfl (by omega) (by decide) dX16_times_58 rfl ?_
    refine ks_lmulN dX16_times_59 rfl ?_
    refine ks_laddN dX16_times_60 rfl ?_
    refine ks_lastNN (i := i + j) (v := f (i + j) + ((fa i) * (fo j))) e1 (by omega) (by omega) dX16_times_61 rfl ?_
    refine ks_incN (c := 1) (e := j + 1) dX16_times_62 rfl (by decide) rfl (by decide) rfl ?_
    refine ks_sub [(5, _), (0, _), (1, _), (2, _), (3, _), (4, _)] rfl ?_
    refine ks_goto (tgt := 34) dX16_times_65 (by decide) ?_
    have hp : fa i * fo j ≤ 2 ^ 32 := by
      have := Nat.mul_le_mul (Nat.le_of_lt (hfa i hi)) (Nat.le_of_lt (hfo j (by omega)))
      omega
    refine ks_sub [(0, _), (1, _), (2, _), (3, _), (4, _), (5, _)] rfl (ih (j + 1) _ (va_up f (i + j) (f (i + j) + fa i * fo j)) (by omega) (hu.trans (ks_up_set _ _ (List.mem_singleton.mpr rfl))) (ks_set_same _ _ _) (fun x hx => ?_) ?_)
    · by_cases h : x = i + j
      · rw [h, va_up_self]
        have := hb (i + j) (by omega)
        rw [show 3 * i + (j + 1) = 3 * i + j + 1 by omega, Nat.add_mul]
        omega
      · rw [va_up_ne _ _ h]
        exact Nat.le_trans (hb x hx) (Nat.mul_le_mul_right _ (by omega))
    · rw [dg_adv (by omega), hd, dg_s 65536 fo j, Nat.mul_add, Nat.add_mul, Nat.add_assoc, Nat.add_left_cancel_iff, Nat.add_left_cancel_iff, Nat.pow_add]
      simp only [Nat.mul_assoc, Nat.mul_comm, Nat.mul_left_comm]
set_option maxRecDepth 100000 in
set_option maxHeartbeats 800000 in
theorem l_tmO {l : Launch} {G : ks_G} {d : Nat} {S : ks_S} {V : Nat → Value} {a b na nb k : Nat} {fa fo : Nat → Nat} (hO : S.2.2 290 = some (rfE V)) (ha : S.2.2 a = some (kL na fa)) (h296 : S.2.2 296 = some (kL 3 fo)) (hab : a ≠ b) (hb6 : b ≠ 296) (hb0 : b ≠ 290) (hk : k ≤ 6) (hna : k ≤ na) (hna9 : na ≤ 100) (hnb : k + 3 ≤ nb) (hnb9 : nb ≤ 100) (hfa : ∀ j, j < k → fa j < 65536) (hfo : ∀ j, j < 3 → fo j < 65536) {P9 : Option Value → ks_S → Prop} (hk9 : ∀ (S1 : ks_S) (f : Nat → Nat), ks_up S S1 [b] → S1.2.2 b = some (kL nb f) → (∀ x, x < k + 3 → f x ≤ (3 * k) * 2 ^ 32) → dg 65536 f (k + 3) = dg 65536 fa k * dg 65536 fo 3 → ks_X l G mX16_times d 74 [(0, .ref 290), (1, .ref a), (2, .int (nI k)), (3, .ref b)] [] S1 P9) : ∀ (u i : Nat) (S1 : ks_S) (f : Nat → Nat), i + u = k → ks_up S S1 [b] → S1.2.2 b = some (kL nb f) → (∀ x, x < k + 3 → f x ≤ (3 * i) * 2 ^ 32) → dg 65536 f (k + 3) = dg 65536 fa i * dg 65536 fo 3 → ks_X l G mX16_times d 25 [(0, .ref 290), (1, .ref a), (2, .int (nI k)), (3, .ref b), (4, .int (nI i))] [] S1 P9 := by
  intro u
  induction u with
  | zero =>
    intro i S1 f hi hu e1 hb hd
    have o1 := hu.at hO (by rw [List.mem_singleton]; omega)
    have a1 := hu.at ha (by rw [List.mem_singleton]; omega)
    have w1 := hu.at h296 (by rw [List.mem_singleton]; omega)
    refine ks_iload dX16_times_25 rfl rfl ?_
    refine ks_iload_n dX16_times_27 rfl rfl ?_
    obtain rfl : i = k := hi
    refine ks_icmp_geN (tgt := 74) (by omega) (by omega) dX16_times_28 (by decide) rfl (fun h9 => ?_) (fun h9 => absurd h9 (by omega))
    exact ks_sub [(0, _), (1, _), (2, _), (3, _)] rfl (hk9 S1 f hu e1 hb hd)
  | succ u ih =>
    intro i S1 f hi hu e1 hb hd
    have o1 := hu.at hO (by rw [List.mem_singleton]; omega)
    have a1 := hu.at ha (by rw [List.mem_singleton]; omega)
    have w1 := hu.at h296 (by rw [List.mem_singleton]; omega)
    refine ks_iload dX16_times_25 rfl rfl ?_
    refine ks_iload_n dX16_times_27 rfl rfl ?_
    refine ks_icmp_geN (tgt := 74) (by omega) (by omega) dX16_times_28 (by decide) rfl (fun h9 => absurd h9 (by omega)) (fun h9 => ?_)
    refine ks_iconst (x := nI 0) dX16_times_31 (by decide) rfl ?_
    refine ks_istore dX16_times_32 (by decide) rfl ?_
    refine ks_sub [(5, _), (0, _), (1, _), (2, _), (3, _), (4, _)] rfl ?_
    refine ks_sub [(0, _), (1, _), (2, _), (3, _), (4, _), (5, .int (nI 0))] rfl (l_tmI hO ha h296 hab hb6 hb0 hk hna hna9 hnb hnb9 hfa hfo (i := i) (by omega) (fun S2 f2 u2 e2 hb2 hd2 => ?_) 3 0 S1 f rfl hu e1 hb (by rw [hd, show dg 65536 fo 0 = 0 from rfl, Nat.mul_zero, Nat.zero_mul, Nat.add_zero]))
    refine ks_incN (c := 1) (e := i + 1) dX16_times_68 rfl (by decide) rfl (by decide) rfl ?_
    refine ks_sub [(4, _), (0, _), (1, _), (2, _), (3, _)] rfl ?_
    refine ks_goto (tgt := 25) dX16_times_71 (by decide) ?_
    refine ks_sub [(0, _), (1, _), (2, _), (3, _), (4, _)] rfl (ih (i + 1) S2 f2 (by omega) u2 e2 (fun x hx => by rw [show 3 * (i + 1) = 3 * i + 3 by omega]; exact hb2 x hx) ?_)
    rw [hd2, dg_s 65536 fa i, Nat.add_mul]
    congr 1
    simp only [Nat.mul_assoc, Nat.mul_comm, Nat.mul_left_comm]
set_option maxRecDepth 100000 in
set_option maxHeartbeats 800000 in
theorem c_md_timesR {l : Launch} {G : ks_G} {d : Nat} {S : ks_S} {V : Nat → Value} {a b na nb k : Nat} {fa fo : Nat → Nat} (hO : S.2.2 290 = some (rfE V)) (ha : S.2.2 a = some (kL na fa)) (h296 : S.2.2 296 = some (kL 3 fo)) (hab : a ≠ b) (hb6 : b ≠ 296) (hb0 : b ≠ 290) (hk : k ≤ 6) (hna : k ≤ na) (hna9 : na ≤ 100) (hnb : k + 3 ≤ nb) (hnb9 : nb ≤ 100) (hfa : ∀ j, j < k → fa j < 65536) (hfo : ∀ j, j < 3 → fo j < 65536) {fb : Nat → Nat} (hbr : S.2.2 b = some (kL nb fb)) : ks_P l G yX16_times mX16_times d [.ref 290, .ref a, .int (nI k), .ref b] S (fun z S' => z = none ∧ ∃ f, ks_up S S' [b] ∧ S'.2.2 b = some (kL nb f) ∧ (∀ j, j < k + 3 → f j < 65536) ∧ dg 65536 f (k + 3) = dg 65536 fa k * dg 65536 fo 3) := by
  have z1 : ∀ (u i : Nat) (S1 : ks_S) (f : Nat → Nat), i + u = k + 3 → ks_up S S1 [b] → S1.2.2 b = some (kL nb f) → (∀ x, x < i → f x = 0) → ks_X l G mX16_times d 3 [(0, .ref 290), (1, .ref a), (2, .int (nI k)), (3, .ref b), (4, .int (nI i))] [] S1 (fun z S' => z = none ∧ ∃ f, ks_up S S' [b] ∧ S'.2.2 b = some (kL nb f) ∧ (∀ j, j < k + 3 → f j < 65536) ∧ dg 65536 f (k + 3) = dg 65536 fa k * dg 65536 fo 3) := by
    intro u
    induction u with
    | zero =>
      intro i S1 f hi hu e1 h1
      have o1 := hu.at hO (by rw [List.mem_singleton]; omega)
      have a1 := hu.at ha (by rw [List.mem_singleton]; omega)
      have w1 := hu.at h296 (by rw [List.mem_singleton]; omega)
      refine ks_iload dX16_times_3 rfl rfl ?_
      refine ks_iload_n dX16_times_5 rfl rfl ?_
      refine ks_iconst (x := nI 3) dX16_times_6 (by decide) rfl ?_
      refine ks_addN dX16_times_7 rfl ?_
      refine ks_icmp_geN (tgt := 22) (by omega) (by omega) dX16_times_8 (by decide) rfl (fun h9 => ?_) (fun h9 => absurd h9 (by omega))
      refine ks_iconst (x := nI 0) dX16_times_22 (by decide) rfl ?_
      refine ks_istore dX16_times_23 (by decide) rfl ?_
      refine ks_sub [(4, _), (0, _), (1, _), (2, _), (3, _)] rfl ?_
      have hA := dg_lt (B := 65536) (f := fa) (n := k) (fun j hj => hfa j hj)
      have hF := dg_lt (B := 65536) (f := fo) (n := 3) (fun j hj => hfo j hj)
      have hP : dg 65536 fa k * dg 65536 fo 3 < 65536 ^ (k + 3) := by
        rw [Nat.pow_add]
        exact Nat.mul_lt_mul'' hA hF
      refine ks_sub [(0, _), (1, _), (2, _), (3, _), (4, .int (nI 0))] rfl (l_tmO hO ha h296 hab hb6 hb0 hk hna hna9 hnb hnb9 hfa hfo (fun S2 f2 u2 e2 hb2 hd2 => ?_) k 0 S1 f (Nat.zero_add _) hu e1 (fun x hx => by rw [h1 x (by omega)]; exact Nat.zero_le _) (by rw [dg_0 (fun x hx => h1 x (by omega)), show dg 65536 fa 0 = 0 from rfl, Nat.zero_mul]))
      refine ks_iconst (x := nI 0) dX16_times_74 (by decide) rfl ?_
      refine ks_istore dX16_times_75 (by decide) rfl ?_
      refine ks_sub [(4, _), (0, _), (1, _), (2, _), (3, _)] rfl ?_
      have hb3 : ∀ x, x < k + 3 → f2 x ≤ 2 ^ 38 := fun x hx => Nat.le_trans (hb2 x hx) (by
        have : 3 * k * 2 ^ 32 ≤ 18 * 2 ^ 32 := Nat.mul_le_mul_right _ (by omega)
        omega)
      exact ks_sub [(0, _), (1, _), (2, _), (3, _), (4, .int (nI 0))] rfl (l_tmC hO ha h296 hab hb6 hb0 hk hna hna9 hnb hnb9 hfa hfo hP (fun S3 f3 u3 e3 h3 d3 => ⟨rfl, f3, u3, e3, h3, d3⟩) (k + 2) 0 S2 f2 (Nat.zero_add _) u2 e2 (fun x hx => absurd hx (Nat.not_lt_zero _)) (Nat.le_trans (hb3 0 (by omega)) (by decide)) (fun x _ hx => hb3 x hx) hd2)
    | succ u ih =>
      intro i S1 f hi hu e1 h1
      have o1 := hu.at hO (by rw [List.mem_singleton]; omega)
      have a1 := hu.at ha (by rw [List.mem_singleton]; omega)
      have w1 := hu.at h296 (by rw [List.mem_singleton]; omega)
      refine ks_iload dX16_times_3 rfl rfl ?_
      refine ks_iload_n dX16_times_5 rfl rfl ?_
      refine ks_iconst (x := nI 3) dX16_times_6 (by decide) rfl ?_
      refine ks_addN dX16_times_7 rfl ?_
      refine ks_icmp_geN (tgt := 22) (by omega) (by omega) dX16_times_8 (by decide) rfl (fun h9 => absurd h9 (by omega)) (fun h9 => ?_)
      refine ks_aload_n dX16_times_11 rfl rfl ?_
      refine ks_iload dX16_times_12 rfl rfl ?_
      refine ks_lconst (x := lN 0) dX16_times_14 (by decide) rfl ?_
      refine ks_lastNN (i := i) (v := 0) e1 (by omega) (by omega) dX16_times_15 rfl ?_
      refine ks_incN (c := 1) (e := i + 1) dX16_times_16 rfl (by decide) rfl (by decide) rfl ?_
      refine ks_sub [(4, _), (0, _), (1, _), (2, _), (3, _)] rfl ?_
      refine ks_goto (tgt := 3) dX16_times_19 (by decide) ?_
      refine ks_sub [(0, _), (1, _), (2, _), (3, _), (4, _)] rfl (ih (i + 1) _ (va_up f i 0) (by omega) (hu.trans (ks_up_set _ _ (List.mem_singleton.mpr rfl))) (ks_set_same _ _ _) (fun x hx => ?_))
      by_cases h : x = i
      · rw [h, va_up_self]
      · rw [va_up_ne _ _ h]
        exact h1 x (by omega)
  refine ks_of (by decide) rfl rfl (Nat.le_of_ble_eq_true rfl) ?_
  show ks_X l G mX16_times d 0 [(0, .ref 290), (1, .ref a), (2, .int (nI k)), (3, .ref b)] [] S _
  refine ks_iconst (x := nI 0) dX16_times_0 (by decide) rfl ?_
  refine ks_istore dX16_times_1 (by decide) rfl ?_
  refine ks_sub [(4, _), (0, _), (1, _), (2, _), (3, _)] rfl ?_
  exact ks_sub [(0, _), (1, _), (2, _), (3, _), (4, .int (nI 0))] rfl (z1 (k + 3) 0 S fb (Nat.zero_add _) (ks_up.rf _ _) hbr (fun x hx => absurd hx (Nat.not_lt_zero _)))
