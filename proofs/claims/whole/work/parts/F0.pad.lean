/-! THE REFERENCE: padding, SHA -/
def pdE (n : Nat) : Nat := (n + 72) / 64 * 64
/-- the padded end of a message -/
def pdF (hi : Bool) (g : Nat → Nat) (a n all : Nat) : Nat → Nat := fun j => if j < n then g (a + j) else if j = n then 128 else if pdE n ≤ j + 8 ∧ j < pdE n then (if hi = true then 8 * all / 256 ^ (pdE n - 1 - j) % 256 else 8 * all / 256 ^ (j + 8 - pdE n) % 256) else 0
theorem p256 (a k : Nat) : a / 2 ^ (8 * k) = a / 256 ^ k := by rw [show (256 : Nat) = 2 ^ 8 from rfl, ← Nat.pow_mul]
set_option maxRecDepth 100000 in
set_option maxHeartbeats 800000 in
theorem c_md_padH {l : Launch} {G : ks_G} {d : Nat} {S : ks_S} {V : Nat → Value} {y N a n all : Nat} {g gp : Nat → Nat} (hO : S.2.2 290 = some (rfE V)) (hy : S.2.2 y = some (kB N g)) (kg : kO g) (han : a + n ≤ N) (hN : N < 2 ^ 28) (hn : n < 64) (hall : all < 2 ^ 28) (h291 : S.2.2 291 = some (kB 128 gp)) (kp : kO gp) (hyn : y ≠ 291) : ks_P l G yX16_pad mX16_pad d [.ref 290, .ref y, .int (nI a), .int (nI n), .int (nI all), .int (ks_bo true)] S (fun z S' => z = some (.int (nI (pdE n))) ∧ ks_up S S' [291] ∧ ∃ gp, kO gp ∧ S'.2.2 291 = some (kB 128 gp) ∧ ∀ j, j < pdE n → gp j = pdF true g a n all j) := by
  have e64 : 64 ≤ pdE n ∧ pdE n ≤ 128 ∧ n + 8 < pdE n := by unfold pdE; omega
  have l291 : ∀ x, x ≠ 291 → x ∉ ([291] : List Nat) := fun x h => by rw [List.mem_singleton]; exact h
  have l3 : ∀ (u k : Nat) (S1 : ks_S) (g1 : Nat → Nat), k + u = 8 → ks_up S S1 [291] → S1.2.2 291 = some (kB 128 g1) → kO g1 → (∀ j, j < pdE n → g1 j = if pdE n ≤ j + k ∧ j < pdE n then 8 * all / 256 ^ (pdE n - 1 - j) % 256 else if j < n then g (a + j) else if j = n then 128 else 0) → ks_X l G mX16_pad d 84 [(0, .ref 290), (1, .ref y), (2, .int (nI a)), (3, .int (nI n)), (4, .int (nI all)), (5, .int (ks_bo true)), (6, .int (nI (pdE n))), (7, .long (lN (8 * all))), (9, .int (nI k))] [] S1 (fun z S' => z = some (.int (nI (pdE n))) ∧ ks_up S S' [291] ∧ ∃ gp, kO gp ∧ S'.2.2 291 = some (kB 128 gp) ∧ ∀ j, j < pdE n → gp j = pdF true g a n all j) := by
    intro u
    induction u with
    | zero =>
      intro k S1 g1 hk hu e1 k1 hg
      have o1 := hu.at hO (l291 _ (by decide))
      obtain rfl : k = 8 := hk
      refine ks_iload dX16_pad_84 rfl rfl ?_
      refine ks_bipush (x := nI 8) dX16_pad_86 (by decide) rfl ?_
      refine ks_icmp_geN (tgt := 135) (by decide) (by decide) dX16_pad_88 (by decide) rfl (fun _ => ?_) (fun h => absurd h (by decide))
      refine ks_iload dX16_pad_135 rfl rfl ?_
      refine ks_iret rfl dX16_pad_137 ?_
      refine ⟨rfl, hu, g1, k1, e1, fun j hj => ?_⟩
      rw [hg j hj]
      unfold pdF
      by_cases c1 : j < n
      · rw [if_neg (by omega), if_pos c1, if_pos c1]
      · by_cases c2 : j = n
        · rw [if_neg (by omega), if_neg c1, if_pos c2, if_neg c1, if_pos c2]
        · by_cases c3 : pdE n ≤ j + 8
          · rw [if_pos (by omega), if_neg c1, if_neg c2, if_pos ⟨c3, hj⟩, if_pos rfl]
          · rw [if_neg (by omega), if_neg c1, if_neg c2, if_neg c1, if_neg c2, if_neg (fun h => c3 h.1)]
    | succ u ih =>
      intro k S1 g1 hk hu e1 k1 hg
      have o1 := hu.at hO (l291 _ (by decide))
      have k8 : k < 8 := by omega
      refine ks_iload dX16_pad_84 rfl rfl ?_
      refine ks_bipush (x := nI 8) dX16_pad_86 (by decide) rfl ?_
      refine ks_icmp_geN (tgt := 135) (by omega) (by decide) dX16_pad_88 (by decide) rfl (fun h1 => absurd h1 (by omega)) (fun h1 => ?_)
      refine ks_aload_n dX16_pad_91 rfl rfl ?_
      refine ks_getf (T := TX16) (kf := 0) kx_2368 rfl in_X16 cl_X16 (by decide) o1 rfl dX16_pad_92 rfl ?_
      refine ks_iload dX16_pad_95 rfl rfl ?_
      refine ks_if_eqZ (tgt := 110) dX16_pad_97 (by decide) rfl (fun h => absurd h (by decide)) (fun _ => ?_)
      refine ks_iload dX16_pad_100 rfl rfl ?_
      refine ks_iconst (x := nI 1) dX16_pad_102 (by decide) rfl ?_
      refine ks_subN (by omega) dX16_pad_103 rfl ?_
      refine ks_iload dX16_pad_104 rfl rfl ?_
      refine ks_subN (by omega) dX16_pad_106 rfl ?_
      refine ks_goto (tgt := 118) dX16_pad_107 (by decide) ?_
      refine ks_lload dX16_pad_118 rfl rfl ?_
      refine ks_bipush (x := nI 8) dX16_pad_120 (by decide) rfl ?_
      refine ks_iload dX16_pad_122 rfl rfl ?_
      refine ks_mulN dX16_pad_124 rfl ?_
      refine ks_lushrN (k := 8 * k) (by omega) (by omega) dX16_pad_125 rfl ?_
      refine ks_l2iN dX16_pad_126 rfl ?_
      refine ks_i2b dX16_pad_127 rfl ?_
      refine ks_bastB (i := pdE n - 1 - k) (c := ((8 * all) / 2 ^ (8 * k)) % 256) e1 rfl (by omega) (by decide) ((ks_by_i8 _).trans (ks_by_nI _)) dX16_pad_128 rfl ?_
      refine ks_incN (c := 1) (e := k + 1) dX16_pad_129 rfl (by decide) rfl (by decide) rfl ?_
      refine ks_sub [(9, _), (0, _), (1, _), (2, _), (3, _), (4, _), (5, _), (6, _), (7, _)] rfl ?_
      refine ks_goto (tgt := 84) dX16_pad_132 (by decide) ?_
      refine ks_sub [(0, _), (1, _), (2, _), (3, _), (4, _), (5, _), (6, _), (7, _), (9, _)] rfl (ih (k + 1) _ _ (by omega) (hu.trans (ks_up_set _ _ (List.mem_singleton.mpr rfl))) (ks_set_same _ _ _) (kO_up k1 (Nat.mod_lt _ (by decide))) (fun j hj => ?_))
      by_cases e : j = pdE n - 1 - k
      · subst e
        rw [va_up_self, p256, if_pos (by omega)]
        congr 3
        omega
      · rw [va_up_ne _ _ e, hg j hj]
        by_cases c : pdE n ≤ j + k ∧ j < pdE n
        · have c2 : pdE n ≤ j + (k + 1) ∧ j < pdE n := by omega
          rw [if_pos c, if_pos c2]
        · have c2 : ¬ (pdE n ≤ j + (k + 1) ∧ j < pdE n) := by omega
          rw [if_neg c, if_neg c2]
  have l2 : ∀ (u i : Nat) (S1 : ks_S) (g1 : Nat → Nat), i + u = pdE n → n ≤ i → ks_up S S1 [291] → S1.2.2 291 = some (kB 128 g1) → kO g1 → (∀ j, j < i → g1 j = if j < n then g (a + j) else 0) → ks_X l G mX16_pad d 43 [(0, .ref 290), (1, .ref y), (2, .int (nI a)), (3, .int (nI n)), (4, .int (nI all)), (5, .int (ks_bo true)), (6, .int (nI (pdE n))), (7, .int (nI i))] [] S1 (fun z S' => z = some (.int (nI (pdE n))) ∧ ks_up S S' [291] ∧ ∃ gp, kO gp ∧ S'.2.2 291 = some (kB 128 gp) ∧ ∀ j, j < pdE n → gp j = pdF true g a n all j) := by
    intro u
    induction u with
    | zero =>
      intro i S1 g1 hi hni hu e1 k1 hg
      have o1 := hu.at hO (l291 _ (by decide))
      obtain rfl : i = pdE n := hi
      refine ks_iload dX16_pad_43 rfl rfl ?_
      refine ks_iload dX16_pad_45 rfl rfl ?_
      refine ks_icmp_geN (tgt := 64) (by omega) (by omega) dX16_pad_47 (by decide) rfl (fun h1 => ?_) (fun h1 => absurd h1 (by omega))
      refine ks_aload_n dX16_pad_64 rfl rfl ?_
      refine ks_getf (T := TX16) (kf := 0) kx_2368 rfl in_X16 cl_X16 (by decide) o1 rfl dX16_pad_65 rfl ?_
      refine ks_iload_n dX16_pad_68 rfl rfl ?_
      refine ks_bipush (x := (-128)) dX16_pad_69 (by decide) rfl ?_
      refine ks_bastB (i := n) (c := 128) e1 rfl (by omega) (by decide) (by decide) dX16_pad_71 rfl ?_
      refine ks_ldc2 dX16_pad_72 kx_2007 rfl ?_
      refine ks_tl (y := lN 8) rfl ?_
      refine ks_iload dX16_pad_75 rfl rfl ?_
      refine ks_i2lN (by omega) dX16_pad_77 rfl ?_
      refine ks_lmulN dX16_pad_78 rfl ?_
      refine ks_lstore dX16_pad_79 (by decide) rfl ?_
      refine ks_sub [(7, _), (0, _), (1, _), (2, _), (3, _), (4, _), (5, _), (6, _)] rfl ?_
      refine ks_iconst (x := nI 0) dX16_pad_81 (by decide) rfl ?_
      refine ks_istore dX16_pad_82 (by decide) rfl ?_
      refine ks_sub [(9, _), (0, _), (1, _), (2, _), (3, _), (4, _), (5, _), (6, _), (7, _)] rfl ?_
      refine ks_sub [(0, _), (1, _), (2, _), (3, _), (4, _), (5, _), (6, _), (7, _), (9, _)] rfl (l3 8 0 _ _ rfl (hu.trans (ks_up_set _ _ (List.mem_singleton.mpr rfl))) (ks_set_same _ _ _) (kO_up k1 (by decide)) (fun j hj => ?_))
      rw [if_neg (by omega)]
      by_cases e : j = n
      · subst e; rw [va_up_self, if_neg (by omega), if_pos rfl]
      · rw [va_up_ne _ _ e, hg j hj]
        by_cases c : j < n
        · rw [if_pos c, if_pos c]
        · rw [if_neg c, if_neg c, if_neg e]
    | succ u ih =>
      intro i S1 g1 hi hni hu e1 k1 hg
      have o1 := hu.at hO (l291 _ (by decide))
      refine ks_iload dX16_pad_43 rfl rfl ?_
      refine ks_iload dX16_pad_45 rfl rfl ?_
      refine ks_icmp_geN (tgt := 64) (by omega) (by omega) dX16_pad_47 (by decide) rfl (fun h1 => absurd h1 (by omega)) (fun h1 => ?_)
      refine ks_aload_n dX16_pad_50 rfl rfl ?_
      refine ks_getf (T := TX16) (kf := 0) kx_2368 rfl in_X16 cl_X16 (by decide) o1 rfl dX16_pad_51 rfl ?_
      refine ks_iload dX16_pad_54 rfl rfl ?_
      refine ks_iconst (x := nI 0) dX16_pad_56 (by decide) rfl ?_
      refine ks_bastB (i := i) (c := 0) e1 rfl (by omega) (by decide) (ks_by_nI _) dX16_pad_57 rfl ?_
      refine ks_incN (c := 1) (e := i + 1) dX16_pad_58 rfl (by decide) rfl (by decide) rfl ?_
      refine ks_sub [(7, _), (0, _), (1, _), (2, _), (3, _), (4, _), (5, _), (6, _)] rfl ?_
      refine ks_goto (tgt := 43) dX16_pad_61 (by decide) ?_
      refine ks_sub [(0, _), (1, _), (2, _), (3, _), (4, _), (5, _), (6, _), (7, _)] rfl (ih (i + 1) _ _ (by omega) (by omega) (hu.trans (ks_up_set _ _ (List.mem_singleton.mpr rfl))) (ks_set_same _ _ _) (kO_up k1 (by decide)) (fun j hj => ?_))
      by_cases e : j = i
      · subst e; rw [va_up_self, if_neg (by omega)]
      · rw [va_up_ne _ _ e]; exact hg j (by omega)
  have l1 : ∀ (u i : Nat) (S1 : ks_S) (g1 : Nat → Nat), i + u = n → ks_up S S1 [291] → S1.2.2 291 = some (kB 128 g1) → kO g1 → (∀ j, j < i → g1 j = g (a + j)) → ks_X l G mX16_pad d 3 [(0, .ref 290), (1, .ref y), (2, .int (nI a)), (3, .int (nI n)), (4, .int (nI all)), (5, .int (ks_bo true)), (6, .int (nI i))] [] S1 (fun z S' => z = some (.int (nI (pdE n))) ∧ ks_up S S' [291] ∧ ∃ gp, kO gp ∧ S'.2.2 291 = some (kB 128 gp) ∧ ∀ j, j < pdE n → gp j = pdF true g a n all j) := by
    intro u
    induction u with
    | zero =>
      intro i S1 g1 hi hu e1 k1 hg
      have o1 := hu.at hO (l291 _ (by decide))
      have ey := hu.at hy (l291 _ hyn)
      obtain rfl : i = n := hi
      refine ks_iload dX16_pad_3 rfl rfl ?_
      refine ks_iload_n dX16_pad_5 rfl rfl ?_
      refine ks_icmp_geN (tgt := 28) (by omega) (by omega) dX16_pad_6 (by decide) rfl (fun h1 => ?_) (fun h1 => absurd h1 (by omega))
      refine ks_iload_n dX16_pad_28 rfl rfl ?_
      refine ks_bipush (x := nI 72) dX16_pad_29 (by decide) rfl ?_
      refine ks_addN dX16_pad_31 rfl ?_
      refine ks_bipush (x := nI 64) dX16_pad_32 (by decide) rfl ?_
      refine ks_divN (by omega) (by decide) (by decide) dX16_pad_34 rfl ?_
      refine ks_bipush (x := nI 64) dX16_pad_35 (by decide) rfl ?_
      refine ks_mulN dX16_pad_37 rfl ?_
      refine ks_istore dX16_pad_38 (by decide) rfl ?_
      refine ks_sub [(6, _), (0, _), (1, _), (2, _), (3, _), (4, _), (5, _)] rfl ?_
      refine ks_iload_n dX16_pad_40 rfl rfl ?_
      refine ks_istore dX16_pad_41 (by decide) rfl ?_
      refine ks_sub [(7, _), (0, _), (1, _), (2, _), (3, _), (4, _), (5, _), (6, _)] rfl ?_
      exact ks_sub [(0, _), (1, _), (2, _), (3, _), (4, _), (5, _), (6, _), (7, _)] rfl (l2 (pdE i - i) i S1 g1 (by omega) (Nat.le_refl _) hu e1 k1 (fun j hj => by rw [if_pos hj]; exact hg j hj))
    | succ u ih =>
      intro i S1 g1 hi hu e1 k1 hg
      have o1 := hu.at hO (l291 _ (by decide))
      have ey := hu.at hy (l291 _ hyn)
      refine ks_iload dX16_pad_3 rfl rfl ?_
      refine ks_iload_n dX16_pad_5 rfl rfl ?_
      refine ks_icmp_geN (tgt := 28) (by omega) (by omega) dX16_pad_6 (by decide) rfl (fun h1 => absurd h1 (by omega)) (fun h1 => ?_)
      refine ks_aload_n dX16_pad_9 rfl rfl ?_
      refine ks_getf (T := TX16) (kf := 0) kx_2368 rfl in_X16 cl_X16 (by decide) o1 rfl dX16_pad_10 rfl ?_
      refine ks_iload dX16_pad_13 rfl rfl ?_
      refine ks_aload_n dX16_pad_15 rfl rfl ?_
      refine ks_iload_n dX16_pad_16 rfl rfl ?_
      refine ks_iload dX16_pad_17 rfl rfl ?_
      refine ks_addN dX16_pad_19 rfl ?_
      refine ks_baldB (i := a + i) ey rfl (by omega) (by omega) dX16_pad_20 rfl ?_
      refine ks_bastB (i := i) (c := g (a + i)) e1 rfl (by omega) (by decide) (ks_by_b (kg _)) dX16_pad_21 rfl ?_
      refine ks_incN (c := 1) (e := i + 1) dX16_pad_22 rfl (by decide) rfl (by decide) rfl ?_
      refine ks_sub [(6, _), (0, _), (1, _), (2, _), (3, _), (4, _), (5, _)] rfl ?_
      refine ks_goto (tgt := 3) dX16_pad_25 (by decide) ?_
      refine ks_sub [(0, _), (1, _), (2, _), (3, _), (4, _), (5, _), (6, _)] rfl (ih (i + 1) _ _ (by omega) (hu.trans (ks_up_set _ _ (List.mem_singleton.mpr rfl))) (ks_set_same _ _ _) (kO_up k1 (kg _)) (fun j hj => ?_))
      by_cases e : j = i
      · subst e; exact va_up_self _ _ _
      · rw [va_up_ne _ _ e]; exact hg j (by omega)
  refine ks_of (by decide) rfl rfl (Nat.le_of_ble_eq_true rfl) ?_
  show ks_X l G mX16_pad d 0 [(0, .ref 290), (1, .ref y), (2, .int (nI a)), (3, .int (nI n)), (4, .int (nI all)), (5, .int (ks_bo true))] [] S _
  refine ks_iconst (x := nI 0) dX16_pad_0 (by decide) rfl ?_
  refine ks_istore dX16_pad_1 (by decide) rfl ?_
  refine ks_sub [(6, _), (0, _), (1, _), (2, _), (3, _), (4, _), (5, _)] rfl ?_
  exact ks_sub [(0, _), (1, _), (2, _), (3, _), (4, _), (5, _), (6, _)] rfl (l1 n 0 S gp (Nat.zero_add _) (ks_up.rf _ _) h291 kp (fun j hj => absurd hj (Nat.not_lt_zero j)))
set_option maxRecDepth 100000 in
set_option maxHeartbeats 800000 in
theorem c_md_padL {l : Launch} {G : ks_G} {d : Nat} {S : ks_S} {V : Nat → Value} {y N a n all : Nat} {g gp : Nat → Nat} (hO : S.2.2 290 = some (rfE V)) (hy : S.2.2 y = some (kB N g)) (kg : kO g) (han : a + n ≤ N) (hN : N < 2 ^ 28) (hn : n < 64) (hall : all < 2 ^ 28) (h291 : S.2.2 291 = some (kB 128 gp)) (kp : kO gp) (hyn : y ≠ 291) : ks_P l G yX16_pad mX16_pad d [.ref 290, .ref y, .int (nI a), .int (nI n), .int (nI all), .int (ks_bo false)] S (fun z S' => z = some (.int (nI (pdE n))) ∧ ks_up S S' [291] ∧ ∃ gp, kO gp ∧ S'.2.2 291 = some (kB 128 gp) ∧ ∀ j, j < pdE n → gp j = pdF false g a n all j) := by
  have e64 : 64 ≤ pdE n ∧ pdE n ≤ 128 ∧ n + 8 < pdE n := by unfold pdE; omega
  have l291 : ∀ x, x ≠ 291 → x ∉ ([291] : List Nat) := fun x h => by rw [List.mem_singleton]; exact h
  have l3 : ∀ (u k : Nat) (S1 : ks_S) (g1 : Nat → Nat), k + u = 8 → ks_up S S1 [291] → S1.2.2 291 = some (kB 128 g1) → kO g1 → (∀ j, j < pdE n → g1 j = if pdE n ≤ j + 8 ∧ j + 8 < pdE n + k then 8 * all / 256 ^ (j + 8 - pdE n) % 256 else if j < n then g (a + j) else if j = n then 128 else 0) → ks_X l G mX16_pad d 84 [(0, .ref 290), (1, .ref y), (2, .int (nI a)), (3, .int (nI n)), (4, .int (nI all)), (5, .int (ks_bo false)), (6, .int (nI (pdE n))), (7, .long (lN (8 * all))), (9, .int (nI k))] [] S1 (fun z S' => z = some (.int (nI (pdE n))) ∧ ks_up S S' [291] ∧ ∃ gp, kO gp ∧ S'.2.2 291 = some (kB 128 gp) ∧ ∀ j, j < pdE n → gp j = pdF false g a n all j) := by
    intro u
    induction u with
    | zero =>
      intro k S1 g1 hk hu e1 k1 hg
      have o1 := hu.at hO (l291 _ (by decide))
      obtain rfl : k = 8 := hk
      refine ks_iload dX16_pad_84 rfl rfl ?_
      refine ks_bipush (x := nI 8) dX16_pad_86 (by decide) rfl ?_
      refine ks_icmp_geN (tgt := 135) (by decide) (by decide) dX16_pad_88 (by decide) rfl (fun _ => ?_) (fun h => absurd h (by decide))
      refine ks_iload dX16_pad_135 rfl rfl ?_
      refine ks_iret rfl dX16_pad_137 ?_
      refine ⟨rfl, hu, g1, k1, e1, fun j hj => ?_⟩
      rw [hg j hj]
      unfold pdF
      by_cases c1 : j < n
      · rw [if_neg (by omega), if_pos c1, if_pos c1]
      · by_cases c2 : j = n
        · rw [if_neg (by omega), if_neg c1, if_pos c2, if_neg c1, if_pos c2]
        · by_cases c3 : pdE n ≤ j + 8
          · rw [if_pos (by omega), if_neg c1, if_neg c2, if_pos ⟨c3, hj⟩, if_neg (by decide)]
          · rw [if_neg (by omega), if_neg c1, if_neg c2, if_neg c1, if_neg c2, if_neg (fun h => c3 h.1)]
    | succ u ih =>
      intro k S1 g1 hk hu e1 k1 hg
      have o1 := hu.at hO (l291 _ (by decide))
      have k8 : k < 8 := by omega
      refine ks_iload dX16_pad_84 rfl rfl ?_
      refine ks_bipush (x := nI 8) dX16_pad_86 (by decide) rfl ?_
      refine ks_icmp_geN (tgt := 135) (by omega) (by decide) dX16_pad_88 (by decide) rfl (fun h1 => absurd h1 (by omega)) (fun h1 => ?_)
      refine ks_aload_n dX16_pad_91 rfl rfl ?_
      refine ks_getf (T := TX16) (kf := 0) kx_2368 rfl in_X16 cl_X16 (by decide) o1 rfl dX16_pad_92 rfl ?_
      refine ks_iload dX16_pad_95 rfl rfl ?_
      refine ks_if_eqZ (tgt := 110) dX16_pad_97 (by decide) rfl (fun _ => ?_) (fun h => absurd h (by decide))
      refine ks_iload dX16_pad_110 rfl rfl ?_
      refine ks_bipush (x := nI 8) dX16_pad_112 (by decide) rfl ?_
      refine ks_subN (by omega) dX16_pad_114 rfl ?_
      refine ks_iload dX16_pad_115 rfl rfl ?_
      refine ks_addN dX16_pad_117 rfl ?_
      refine ks_lload dX16_pad_118 rfl rfl ?_
      refine ks_bipush (x := nI 8) dX16_pad_120 (by decide) rfl ?_
      refine ks_iload dX16_pad_122 rfl rfl ?_
      refine ks_mulN dX16_pad_124 rfl ?_
      refine ks_lushrN (k := 8 * k) (by omega) (by omega) dX16_pad_125 rfl ?_
      refine ks_l2iN dX16_pad_126 rfl ?_
      refine ks_i2b dX16_pad_127 rfl ?_
      refine ks_bastB (i := (pdE n - 8) + k) (c := ((8 * all) / 2 ^ (8 * k)) % 256) e1 rfl (by omega) (by decide) ((ks_by_i8 _).trans (ks_by_nI _)) dX16_pad_128 rfl ?_
      refine ks_incN (c := 1) (e := k + 1) dX16_pad_129 rfl (by decide) rfl (by decide) rfl ?_
      refine ks_sub [(9, _), (0, _), (1, _), (2, _), (3, _), (4, _), (5, _), (6, _), (7, _)] rfl ?_
      refine ks_goto (tgt := 84) dX16_pad_132 (by decide) ?_
      refine ks_sub [(0, _), (1, _), (2, _), (3, _), (4, _), (5, _), (6, _), (7, _), (9, _)] rfl (ih (k + 1) _ _ (by omega) (hu.trans (ks_up_set _ _ (List.mem_singleton.mpr rfl))) (ks_set_same _ _ _) (kO_up k1 (Nat.mod_lt _ (by decide))) (fun j hj => ?_))
      by_cases e : j = pdE n - 8 + k
      · subst e
        rw [va_up_self, p256, if_pos (by omega)]
        congr 3
        omega
      · rw [va_up_ne _ _ e, hg j hj]
        by_cases c : pdE n ≤ j + 8 ∧ j + 8 < pdE n + k
        · have c2 : pdE n ≤ j + 8 ∧ j + 8 < pdE n + (k + 1) := by omega
          rw [if_pos c, if_pos c2]
        · have c2 : ¬ (pdE n ≤ j + 8 ∧ j + 8 < pdE n + (k + 1)) := by omega
          rw [if_neg c, if_neg c2]
  have l2 : ∀ (u i : Nat) (S1 : ks_S) (g1 : Nat → Nat), i + u = pdE n → n ≤ i → ks_up S S1 [291] → S1.2.2 291 = some (kB 128 g1) → kO g1 → (∀ j, j < i → g1 j = if j < n then g (a + j) else 0) → ks_X l G mX16_pad d 43 [(0, .ref 290), (1, .ref y), (2, .int (nI a)), (3, .int (nI n)), (4, .int (nI all)), (5, .int (ks_bo false)), (6, .int (nI (pdE n))), (7, .int (nI i))] [] S1 (fun z S' => z = some (.int (nI (pdE n))) ∧ ks_up S S' [291] ∧ ∃ gp, kO gp ∧ S'.2.2 291 = some (kB 128 gp) ∧ ∀ j, j < pdE n → gp j = pdF false g a n all j) := by
    intro u
    induction u with
    | zero =>
      intro i S1 g1 hi hni hu e1 k1 hg
      have o1 := hu.at hO (l291 _ (by decide))
      obtain rfl : i = pdE n := hi
      refine ks_iload dX16_pad_43 rfl rfl ?_
      refine ks_iload dX16_pad_45 rfl rfl ?_
      refine ks_icmp_geN (tgt := 64) (by omega) (by omega) dX16_pad_47 (by decide) rfl (fun h1 => ?_) (fun h1 => absurd h1 (by omega))
      refine ks_aload_n dX16_pad_64 rfl rfl ?_
      refine ks_getf (T := TX16) (kf := 0) kx_2368 rfl in_X16 cl_X16 (by decide) o1 rfl dX16_pad_65 rfl ?_
      refine ks_iload_n dX16_pad_68 rfl rfl ?_
      refine ks_bipush (x := (-128)) dX16_pad_69 (by decide) rfl ?_
      refine ks_bastB (i := n) (c := 128) e1 rfl (by omega) (by decide) (by decide) dX16_pad_71 rfl ?_
      refine ks_ldc2 dX16_pad_72 kx_2007 rfl ?_
      refine ks_tl (y := lN 8) rfl ?_
      refine ks_iload dX16_pad_75 rfl rfl ?_
      refine ks_i2lN (by omega) dX16_pad_77 rfl ?_
      refine ks_lmulN dX16_pad_78 rfl ?_
      refine ks_lstore dX16_pad_79 (by decide) rfl ?_
      refine ks_sub [(7, _), (0, _), (1, _), (2, _), (3, _), (4, _), (5, _), (6, _)] rfl ?_
      refine ks_iconst (x := nI 0) dX16_pad_81 (by decide) rfl ?_
      refine ks_istore dX16_pad_82 (by decide) rfl ?_
      refine ks_sub [(9, _), (0, _), (1, _), (2, _), (3, _), (4, _), (5, _), (6, _), (7, _)] rfl ?_
      refine ks_sub [(0, _), (1, _), (2, _), (3, _), (4, _), (5, _), (6, _), (7, _), (9, _)] rfl (l3 8 0 _ _ rfl (hu.trans (ks_up_set _ _ (List.mem_singleton.mpr rfl))) (ks_set_same _ _ _) (kO_up k1 (by decide)) (fun j hj => ?_))
      rw [if_neg (by omega)]
      by_cases e : j = n
      · subst e; rw [va_up_self, if_neg (by omega), if_pos rfl]
      · rw [va_up_ne _ _ e, hg j hj]
        by_cases c : j < n
        · rw [if_pos c, if_pos c]
        · rw [if_neg c, if_neg c, if_neg e]
    | succ u ih =>
      intro i S1 g1 hi hni hu e1 k1 hg
      have o1 := hu.at hO (l291 _ (by decide))
      refine ks_iload dX16_pad_43 rfl rfl ?_
      refine ks_iload dX16_pad_45 rfl rfl ?_
      refine ks_icmp_geN (tgt := 64) (by omega) (by omega) dX16_pad_47 (by decide) rfl (fun h1 => absurd h1 (by omega)) (fun h1 => ?_)
      refine ks_aload_n dX16_pad_50 rfl rfl ?_
      refine ks_getf (T := TX16) (kf := 0) kx_2368 rfl in_X16 cl_X16 (by decide) o1 rfl dX16_pad_51 rfl ?_
      refine ks_iload dX16_pad_54 rfl rfl ?_
      refine ks_iconst (x := nI 0) dX16_pad_56 (by decide) rfl ?_
      refine ks_bastB (i := i) (c := 0) e1 rfl (by omega) (by decide) (ks_by_nI _) dX16_pad_57 rfl ?_
      refine ks_incN (c := 1) (e := i + 1) dX16_pad_58 rfl (by decide) rfl (by decide) rfl ?_
      refine ks_sub [(7, _), (0, _), (1, _), (2, _), (3, _), (4, _), (5, _), (6, _)] rfl ?_
      refine ks_goto (tgt := 43) dX16_pad_61 (by decide) ?_
      refine ks_sub [(0, _), (1, _), (2, _), (3, _), (4, _), (5, _), (6, _), (7, _)] rfl (ih (i + 1) _ _ (by omega) (by omega) (hu.trans (ks_up_set _ _ (List.mem_singleton.mpr rfl))) (ks_set_same _ _ _) (kO_up k1 (by decide)) (fun j hj => ?_))
      by_cases e : j = i
      · subst e; rw [va_up_self, if_neg (by omega)]
      · rw [va_up_ne _ _ e]; exact hg j (by omega)
  have l1 : ∀ (u i : Nat) (S1 : ks_S) (g1 : Nat → Nat), i + u = n → ks_up S S1 [291] → S1.2.2 291 = some (kB 128 g1) → kO g1 → (∀ j, j < i → g1 j = g (a + j)) → ks_X l G mX16_pad d 3 [(0, .ref 290), (1, .ref y), (2, .int (nI a)), (3, .int (nI n)), (4, .int (nI all)), (5, .int (ks_bo false)), (6, .int (nI i))] [] S1 (fun z S' => z = some (.int (nI (pdE n))) ∧ ks_up S S' [291] ∧ ∃ gp, kO gp ∧ S'.2.2 291 = some (kB 128 gp) ∧ ∀ j, j < pdE n → gp j = pdF false g a n all j) := by
    intro u
    induction u with
    | zero =>
      intro i S1 g1 hi hu e1 k1 hg
      have o1 := hu.at hO (l291 _ (by decide))
      have ey := hu.at hy (l291 _ hyn)
      obtain rfl : i = n := hi
      refine ks_iload dX16_pad_3 rfl rfl ?_
      refine ks_iload_n dX16_pad_5 rfl rfl ?_
      refine ks_icmp_geN (tgt := 28) (by omega) (by omega) dX16_pad_6 (by decide) rfl (fun h1 => ?_) (fun h1 => absurd h1 (by omega))
      refine ks_iload_n dX16_pad_28 rfl rfl ?_
      refine ks_bipush (x := nI 72) dX16_pad_29 (by decide) rfl ?_
      refine ks_addN dX16_pad_31 rfl ?_
      refine ks_bipush (x := nI 64) dX16_pad_32 (by decide) rfl ?_
      refine ks_divN (by omega) (by decide) (by decide) dX16_pad_34 rfl ?_
      refine ks_bipush (x := nI 64) dX16_pad_35 (by decide) rfl ?_
      refine ks_mulN dX16_pad_37 rfl ?_
      refine ks_istore dX16_pad_38 (by decide) rfl ?_
      refine ks_sub [(6, _), (0, _), (1, _), (2, _), (3, _), (4, _), (5, _)] rfl ?_
      refine ks_iload_n dX16_pad_40 rfl rfl ?_
      refine ks_istore dX16_pad_41 (by decide) rfl ?_
      refine ks_sub [(7, _), (0, _), (1, _), (2, _), (3, _), (4, _), (5, _), (6, _)] rfl ?_
      exact ks_sub [(0, _), (1, _), (2, _), (3, _), (4, _), (5, _), (6, _), (7, _)] rfl (l2 (pdE i - i) i S1 g1 (by omega) (Nat.le_refl _) hu e1 k1 (fun j hj => by rw [if_pos hj]; exact hg j hj))
    | succ u ih =>
      intro i S1 g1 hi hu e1 k1 hg
      have o1 := hu.at hO (l291 _ (by decide))
      have ey := hu.at hy (l291 _ hyn)
      refine ks_iload dX16_pad_3 rfl rfl ?_
      refine ks_iload_n dX16_pad_5 rfl rfl ?_
      refine ks_icmp_geN (tgt := 28) (by omega) (by omega) dX16_pad_6 (by decide) rfl (fun h1 => absurd h1 (by omega)) (fun h1 => ?_)
      refine ks_aload_n dX16_pad_9 rfl rfl ?_
      refine ks_getf (T := TX16) (kf := 0) kx_2368 rfl in_X16 cl_X16 (by decide) o1 rfl dX16_pad_10 rfl ?_
      refine ks_iload dX16_pad_13 rfl rfl ?_
      refine ks_aload_n dX16_pad_15 rfl rfl ?_
      refine ks_iload_n dX16_pad_16 rfl rfl ?_
      refine ks_iload dX16_pad_17 rfl rfl ?_
      refine ks_addN dX16_pad_19 rfl ?_
      refine ks_baldB (i := a + i) ey rfl (by omega) (by omega) dX16_pad_20 rfl ?_
      refine ks_bastB (i := i) (c := g (a + i)) e1 rfl (by omega) (by decide) (ks_by_b (kg _)) dX16_pad_21 rfl ?_
      refine ks_incN (c := 1) (e := i + 1) dX16_pad_22 rfl (by decide) rfl (by decide) rfl ?_
      refine ks_sub [(6, _), (0, _), (1, _), (2, _), (3, _), (4, _), (5, _)] rfl ?_
      refine ks_goto (tgt := 3) dX16_pad_25 (by decide) ?_
      refine ks_sub [(0, _), (1, _), (2, _), (3, _), (4, _), (5, _), (6, _)] rfl (ih (i + 1) _ _ (by omega) (hu.trans (ks_up_set _ _ (List.mem_singleton.mpr rfl))) (ks_set_same _ _ _) (kO_up k1 (kg _)) (fun j hj => ?_))
      by_cases e : j = i
      · subst e; exact va_up_self _ _ _
      · rw [va_up_ne _ _ e]; exact hg j (by omega)
  refine ks_of (by decide) rfl rfl (Nat.le_of_ble_eq_true rfl) ?_
  show ks_X l G mX16_pad d 0 [(0, .ref 290), (1, .ref y), (2, .int (nI a)), (3, .int (nI n)), (4, .int (nI all)), (5, .int (ks_bo false))] [] S _
  refine ks_iconst (x := nI 0) dX16_pad_0 (by decide) rfl ?_
  refine ks_istore dX16_pad_1 (by decide) rfl ?_
  refine ks_sub [(6, _), (0, _), (1, _), (2, _), (3, _), (4, _), (5, _)] rfl ?_
  exact ks_sub [(0, _), (1, _), (2, _), (3, _), (4, _), (5, _), (6, _)] rfl (l1 n 0 S gp (Nat.zero_add _) (ks_up.rf _ _) h291 kp (fun j hj => absurd hj (Nat.not_lt_zero j)))
