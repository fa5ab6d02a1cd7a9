/-! FIELD: adding, taking away, halving -/
theorem lay_rd (R : Nat → Nat) (x i : Nat) (h : i < 9) : lay R (9 * x + i) = dL (R x) i := lay_at R x h
set_option maxRecDepth 100000 in
set_option maxHeartbeats 2000000 in
theorem c_fd_subtract {l : Launch} {G : ks_G} {d : Nat} {S : ks_S} {fo fc n : Nat} {R : Nat → Nat} (hF : fdX S fo fc n R) {o x y : Nat} (ho5 : o < n + 5) (hx : x < n + 5) (hy : y < n + 5) (hom : o ≠ n) (hm : R y ≤ R x + R n) (hm2 : R x < R y → R x + R n - R y < 3705346855594118253554271520278013051304639509300498049262642688253220148477952) : ks_P l G yX5_subtract mX5_subtract d [.ref fo, .int (nI (9 * o)), .int (nI (9 * x)), .int (nI (9 * y))] S (fun z S' => z = none ∧ ks_up S S' [fc] ∧ fdX S' fo fc n (va_up R o (if R y ≤ R x then R x - R y else R x + R n - R y))) := by
  have hn := hF.2.2.1
  have bx := hF.2.2.2.2 x
  have by_ := hF.2.2.2.2 y
  have bn := hF.2.2.2.2 n
  obtain ⟨R1, hR1⟩ : ∃ R1, R1 = va_up R o (R x + 3705346855594118253554271520278013051304639509300498049262642688253220148477952 - R y) := ⟨_, rfl⟩
  have r1o : R1 o = (R x + 3705346855594118253554271520278013051304639509300498049262642688253220148477952 - R y) := by rw [hR1, va_up_self]
  have r1n : R1 n = R n := by rw [hR1, va_up_ne _ _ (Ne.symm hom)]
  have loop2 : ∀ c i (S1 : ks_S), i + c = 9 → ks_up S S1 [fc] → R x < R y → S1.2.2 fo = some (.inr (8, [.ref fc, .int (nI (9 * n)), .int (nI (9 * (n + 1))), .int (nI (9 * (n + 2))), .int (nI (9 * (n + 3))), .int (nI (9 * (n + 4)))])) → S1.2.2 fc = some (kL (9 * (n + 5)) (layP R1 o (R1 o + R1 n) i)) → ks_X l G mX5_subtract d 78 [(0, .ref fo), (1, .int (nI (9 * o))), (2, .int (nI (9 * x))), (3, .int (nI (9 * y))), (4, .long (lN (cyA (R1 o) (R1 n) i))), (6, .int (nI i))] [] S1 (fun z S' => z = none ∧ ks_up S S' [fc] ∧ fdX S' fo fc n (va_up R o (if R y ≤ R x then R x - R y else R x + R n - R y))) := by
    intro c
    induction c with
    | zero =>
      intro i S1 hi hu hlt ho hc
      refine ks_iload dX5_subtract_78 rfl rfl ?_
      refine ks_bipush (x := nI 9) dX5_subtract_80 (by decide) rfl ?_
      refine ks_icmp_geN (tgt := 140) (by omega) (by decide) dX5_subtract_82 (by decide) rfl (fun h1 => ?_) (fun h1 => ?_)
      · obtain rfl : i = 9 := by omega
        rw [layP_9] at hc
        refine ks_ret rfl dX5_subtract_140 ?_
        have e9 : lay (va_up R1 o (R1 o + R1 n)) = lay (va_up R o (if R y ≤ R x then R x - R y else R x + R n - R y)) := by
          rw [← layP_9, ← layP_9, hR1]
          funext j
          unfold layP
          split
          · apply dL_cong _ _ (by omega)
            rw [va_up_self, va_up_ne _ _ (Ne.symm hom), if_neg (by omega)]
            omega
          · unfold lay
            rw [va_up_ne _ _ (by omega)]
        rw [e9] at hc
        exact ⟨rfl, hu, hF.mk hu hc (by split; omega; exact hm2 (by omega))⟩
      · omega
    | succ c ih =>
      intro i S1 hi hu hlt ho hc
      refine ks_iload dX5_subtract_78 rfl rfl ?_
      refine ks_bipush (x := nI 9) dX5_subtract_80 (by decide) rfl ?_
      refine ks_icmp_geN (tgt := 140) (by omega) (by decide) dX5_subtract_82 (by decide) rfl (fun h1 => ?_) (fun h1 => ?_)
      · omega
      · refine ks_lload dX5_subtract_85 rfl rfl ?_
        refine ks_aload_n dX5_subtract_87 rfl rfl ?_
        refine ks_getf (T := TX5) (kf := 0) kx_121 rfl in_X5 cl_X5 (by decide) ho rfl dX5_subtract_88 rfl ?_
        refine ks_iload_n dX5_subtract_91 rfl rfl ?_
        refine ks_iload dX5_subtract_92 rfl rfl ?_
        refine ks_addN dX5_subtract_94 rfl ?_
        refine ks_laldN (i := 9 * o + i) hc rfl (by omega) (by omega) dX5_subtract_95 rfl ?_
        rw [layP_rd R1 o (R1 o + R1 n) (x := o) (by omega)]
        refine ks_aload_n dX5_subtract_96 rfl rfl ?_
        refine ks_getf (T := TX5) (kf := 0) kx_121 rfl in_X5 cl_X5 (by decide) ho rfl dX5_subtract_97 rfl ?_
        refine ks_aload_n dX5_subtract_100 rfl rfl ?_
        refine ks_getf (T := TX5) (kf := 1) kx_123 rfl in_X5 cl_X5 (by decide) ho rfl dX5_subtract_101 rfl ?_
        refine ks_iload dX5_subtract_104 rfl rfl ?_
        refine ks_addN dX5_subtract_106 rfl ?_
        refine ks_laldN (i := 9 * n + i) hc rfl (by omega) (by omega) dX5_subtract_107 rfl ?_
        rw [layP_rd R1 o (R1 o + R1 n) (x := n) (by omega)]
        have d1 := dL_lt (R1 o) i
        have d2 := dL_lt (R1 n) i
        obtain ⟨s1, s2⟩ := add_step (R1 o) (R1 n) i
        have cl := cyA_le (R1 o) (R1 n) i
        refine ks_laddN dX5_subtract_108 rfl ?_
        refine ks_laddN dX5_subtract_109 rfl ?_
        refine ks_lstore dX5_subtract_110 (by decide) rfl ?_
        refine ks_sub [(4, _), (0, _), (1, _), (2, _), (3, _), (6, _)] rfl ?_
        refine ks_aload_n dX5_subtract_112 rfl rfl ?_
        refine ks_getf (T := TX5) (kf := 0) kx_121 rfl in_X5 cl_X5 (by decide) ho rfl dX5_subtract_113 rfl ?_
        refine ks_iload_n dX5_subtract_116 rfl rfl ?_
        refine ks_iload dX5_subtract_117 rfl rfl ?_
        refine ks_addN dX5_subtract_119 rfl ?_
        refine ks_lload dX5_subtract_120 rfl rfl ?_
        refine ks_ldc2 dX5_subtract_122 kx_120 rfl ?_
        refine ks_tl (y := lN 536870911) rfl ?_
        refine ks_landN (k := 29) (p := 536870912) (by decide) (by decide) (by decide) (by omega) dX5_subtract_125 rfl ?_
        refine ks_tl (y := lN (dL (R1 o + R1 n) i)) (congrArg lN s1) ?_
        refine ks_lastNN (i := 9 * o + i) (v := dL (R1 o + R1 n) i) hc (by omega) (by omega) dX5_subtract_126 rfl ?_
        refine ks_tS (by rw [layP_up]) ?_
        refine ks_lload dX5_subtract_127 rfl rfl ?_
        refine ks_bipush (x := nI 29) dX5_subtract_129 (by decide) rfl ?_
        refine ks_lshrN (k := 29) (by decide) (by decide) (by omega) dX5_subtract_131 rfl ?_
        refine ks_tl (y := lN (cyA (R1 o) (R1 n) (i + 1))) (congrArg lN s2) ?_
        refine ks_lstore dX5_subtract_132 (by decide) rfl ?_
        refine ks_sub [(4, _), (0, _), (1, _), (2, _), (3, _), (6, _)] rfl ?_
        refine ks_incN (c := 1) (e := i + 1) dX5_subtract_134 rfl (by decide) rfl (by decide) rfl ?_
        refine ks_sub [(6, _), (0, _), (1, _), (2, _), (3, _), (4, _)] rfl ?_
        refine ks_goto (tgt := 78) dX5_subtract_137 (by decide) ?_
        exact ks_sub [(0, _), (1, _), (2, _), (3, _), (4, _), (6, _)] rfl (ih (i + 1) _ (by omega) (hu.trans (ks_up_set _ _ (by simp))) hlt ((ks_set_ne _ _ hF.2.2.2.1).trans ho) (ks_set_same _ _ _))
  have loop1 : ∀ c i (S1 : ks_S), i + c = 9 → ks_up S S1 [fc] → S1.2.2 fo = some (.inr (8, [.ref fc, .int (nI (9 * n)), .int (nI (9 * (n + 1))), .int (nI (9 * (n + 2))), .int (nI (9 * (n + 3))), .int (nI (9 * (n + 4)))])) → S1.2.2 fc = some (kL (9 * (n + 5)) (layP R o (R x + 3705346855594118253554271520278013051304639509300498049262642688253220148477952 - R y) i)) → ks_X l G mX5_subtract d 6 [(0, .ref fo), (1, .int (nI (9 * o))), (2, .int (nI (9 * x))), (3, .int (nI (9 * y))), (4, .long (iL (-((cyB (R x) (R y) i : Nat) : Int)))), (6, .int (nI i))] [] S1 (fun z S' => z = none ∧ ks_up S S' [fc] ∧ fdX S' fo fc n (va_up R o (if R y ≤ R x then R x - R y else R x + R n - R y))) := by
    intro c
    induction c with
    | zero =>
      intro i S1 hi hu ho hc
      refine ks_iload dX5_subtract_6 rfl rfl ?_
      refine ks_bipush (x := nI 9) dX5_subtract_8 (by decide) rfl ?_
      refine ks_icmp_geN (tgt := 65) (by omega) (by decide) dX5_subtract_10 (by decide) rfl (fun h1 => ?_) (fun h1 => ?_)
      · obtain rfl : i = 9 := by omega
        rw [layP_9] at hc
        rw [cyB_9 bx by_]
        refine ks_lload dX5_subtract_65 rfl rfl ?_
        refine ks_lconst (x := lN 0) dX5_subtract_67 (by decide) rfl ?_
        refine ks_lif_ge (tgt := 140) dX5_subtract_68 rfl dX5_subtract_69 (by decide) rfl (fun h2 => ?_) (fun h2 => ?_)
        · have hge : R y ≤ R x := by
            apply Nat.le_of_not_lt
            intro h
            rw [if_pos h] at h2
            exact absurd h2 (by decide)
          refine ks_ret rfl dX5_subtract_140 ?_
          have e9 : lay (va_up R o (R x + 3705346855594118253554271520278013051304639509300498049262642688253220148477952 - R y)) = lay (va_up R o (if R y ≤ R x then R x - R y else R x + R n - R y)) := by
            rw [← layP_9, ← layP_9]
            exact layP_cong (by rw [if_pos hge]; omega) (Nat.le_refl 9)
          rw [e9] at hc
          exact ⟨rfl, hu, hF.mk hu hc (by rw [if_pos hge]; omega)⟩
        · have hlt : R x < R y := by
            apply Nat.lt_of_not_le
            intro h
            rw [if_neg (by omega)] at h2
            exact h2 (by decide)
          refine ks_lconst (x := lN 0) dX5_subtract_72 (by decide) rfl ?_
          refine ks_lstore dX5_subtract_73 (by decide) rfl ?_
          refine ks_sub [(4, _), (0, _), (1, _), (2, _), (3, _), (6, _)] rfl ?_
          refine ks_iconst (x := nI 0) dX5_subtract_75 (by decide) rfl ?_
          refine ks_istore dX5_subtract_76 (by decide) rfl ?_
          refine ks_sub [(6, _), (0, _), (1, _), (2, _), (3, _), (4, _)] rfl ?_
          have h7 := loop2 9 0 S1 (by decide) hu hlt ho (by rw [layP_0, hR1]; exact hc)
          rw [cyA_0] at h7
          exact ks_sub [(0, _), (1, _), (2, _), (3, _), (4, _), (6, _)] rfl h7
      · omega
    | succ c ih =>
      intro i S1 hi hu ho hc
      refine ks_iload dX5_subtract_6 rfl rfl ?_
      refine ks_bipush (x := nI 9) dX5_subtract_8 (by decide) rfl ?_
      refine ks_icmp_geN (tgt := 65) (by omega) (by decide) dX5_subtract_10 (by decide) rfl (fun h1 => ?_) (fun h1 => ?_)
      · omega
      · refine ks_lload dX5_subtract_13 rfl rfl ?_
        refine ks_aload_n dX5_subtract_15 rfl rfl ?_
        refine ks_getf (T := TX5) (kf := 0) kx_121 rfl in_X5 cl_X5 (by decide) ho rfl dX5_subtract_16 rfl ?_
        refine ks_iload_n dX5_subtract_19 rfl rfl ?_
        refine ks_iload dX5_subtract_20 rfl rfl ?_
        refine ks_addN dX5_subtract_22 rfl ?_
        refine ks_laldN (i := 9 * x + i) hc rfl (by omega) (by omega) dX5_subtract_23 rfl ?_
        rw [layP_rd R o (R x + 3705346855594118253554271520278013051304639509300498049262642688253220148477952 - R y) (x := x) (by omega)]
        refine ks_aload_n dX5_subtract_24 rfl rfl ?_
        refine ks_getf (T := TX5) (kf := 0) kx_121 rfl in_X5 cl_X5 (by decide) ho rfl dX5_subtract_25 rfl ?_
        refine ks_iload_n dX5_subtract_28 rfl rfl ?_
        refine ks_iload dX5_subtract_29 rfl rfl ?_
        refine ks_addN dX5_subtract_31 rfl ?_
        refine ks_laldN (i := 9 * y + i) hc rfl (by omega) (by omega) dX5_subtract_32 rfl ?_
        rw [layP_rd R o (R x + 3705346855594118253554271520278013051304639509300498049262642688253220148477952 - R y) (x := y) (by omega)]
        have d1 := dL_lt (R x) i
        have d2 := dL_lt (R y) i
        obtain ⟨s1, s2⟩ := sub_step (x := R x) (y := R y) (i := i) (hF.2.2.2.2 _) (by omega)
        have cl := cyB_le (R x) (R y) i
        refine ks_lsub dX5_subtract_33 rfl ?_
        refine ks_tl (y := iL ((dL (R x) i : Nat) - (dL (R y) i : Nat))) (iL_sub ((dL (R x) i : Nat) : Int) ((dL (R y) i : Nat) : Int)) ?_
        refine ks_ladd dX5_subtract_34 rfl ?_
        refine ks_tl (y := iL (((dL (R x) i : Nat) : Int) - (dL (R y) i : Nat) - (cyB (R x) (R y) i : Nat))) (by rw [iL_add]; congr 1; omega) ?_
        refine ks_lstore dX5_subtract_35 (by decide) rfl ?_
        refine ks_sub [(4, _), (0, _), (1, _), (2, _), (3, _), (6, _)] rfl ?_
        refine ks_aload_n dX5_subtract_37 rfl rfl ?_
        refine ks_getf (T := TX5) (kf := 0) kx_121 rfl in_X5 cl_X5 (by decide) ho rfl dX5_subtract_38 rfl ?_
        refine ks_iload_n dX5_subtract_41 rfl rfl ?_
        refine ks_iload dX5_subtract_42 rfl rfl ?_
        refine ks_addN dX5_subtract_44 rfl ?_
        refine ks_lload dX5_subtract_45 rfl rfl ?_
        refine ks_ldc2 dX5_subtract_47 kx_120 rfl ?_
        refine ks_tl (y := lN 536870911) rfl ?_
        refine ks_land dX5_subtract_50 rfl ?_
        refine ks_tl (y := lN (dL (R x + 3705346855594118253554271520278013051304639509300498049262642688253220148477952 - R y) i)) ((sg_mask d1 d2 cl).trans (congrArg lN s1)) ?_
        refine ks_lastNN (i := 9 * o + i) (v := dL (R x + 3705346855594118253554271520278013051304639509300498049262642688253220148477952 - R y) i) hc (by omega) (by omega) dX5_subtract_51 rfl ?_
        refine ks_tS (by rw [layP_up]) ?_
        refine ks_lload dX5_subtract_52 rfl rfl ?_
        refine ks_bipush (x := nI 29) dX5_subtract_54 (by decide) rfl ?_
        refine ks_lshr dX5_subtract_56 rfl ?_
        refine ks_tl (y := iL (-((cyB (R x) (R y) (i + 1) : Nat) : Int))) (by rw [sg_shr d1 d2 cl, s2]) ?_
        refine ks_lstore dX5_subtract_57 (by decide) rfl ?_
        refine ks_sub [(4, _), (0, _), (1, _), (2, _), (3, _), (6, _)] rfl ?_
        refine ks_incN (c := 1) (e := i + 1) dX5_subtract_59 rfl (by decide) rfl (by decide) rfl ?_
        refine ks_sub [(6, _), (0, _), (1, _), (2, _), (3, _), (4, _)] rfl ?_
        refine ks_goto (tgt := 6) dX5_subtract_62 (by decide) ?_
        exact ks_sub [(0, _), (1, _), (2, _), (3, _), (4, _), (6, _)] rfl (ih (i + 1) _ (by omega) (hu.trans (ks_up_set _ _ (by simp))) ((ks_set_ne _ _ hF.2.2.2.1).trans ho) (ks_set_same _ _ _))
  refine ks_of (by decide) rfl rfl (Nat.le_of_ble_eq_true rfl) ?_
  show ks_X l G mX5_subtract d 0 [(0, .ref fo), (1, .int (nI (9 * o))), (2, .int (nI (9 * x))), (3, .int (nI (9 * y)))] [] S _
  refine ks_lconst (x := lN 0) dX5_subtract_0 (by decide) rfl ?_
  refine ks_lstore dX5_subtract_1 (by decide) rfl ?_
  refine ks_sub [(4, _), (0, _), (1, _), (2, _), (3, _)] rfl ?_
  refine ks_iconst (x := nI 0) dX5_subtract_3 (by decide) rfl ?_
  refine ks_istore dX5_subtract_4 (by decide) rfl ?_
  refine ks_sub [(6, _), (0, _), (1, _), (2, _), (3, _), (4, _)] rfl ?_
  have h7 := loop1 9 0 S (by decide) (ks_up.rf _ _) hF.1 (by rw [layP_0]; exact hF.2.1)
  rw [cyB_0] at h7
  exact ks_sub [(0, _), (1, _), (2, _), (3, _), (4, _), (6, _)] rfl h7
set_option maxRecDepth 100000 in
set_option maxHeartbeats 2000000 in
theorem c_fd_add {l : Launch} {G : ks_G} {d : Nat} {S : ks_S} {fo fc n : Nat} {R : Nat → Nat} (hF : fdX S fo fc n R) {o x y : Nat} (ho5 : o < n + 5) (hx : x < n + 5) (hy : y < n + 5) (hom : o ≠ n) (hs : R x + R y < 3705346855594118253554271520278013051304639509300498049262642688253220148477952) : ks_P l G yX5_add mX5_add d [.ref fo, .int (nI (9 * o)), .int (nI (9 * x)), .int (nI (9 * y))] S (fun z S' => z = none ∧ ks_up S S' [fc] ∧ fdX S' fo fc n (va_up R o (if R n ≤ R x + R y then R x + R y - R n else R x + R y))) := by
  have hn := hF.2.2.1
  have bx := hF.2.2.2.2 x
  have by_ := hF.2.2.2.2 y
  have bn := hF.2.2.2.2 n
  obtain ⟨R1, hR1⟩ : ∃ R1, R1 = va_up R o (R x + R y) := ⟨_, rfl⟩
  have r1o : R1 o = R x + R y := by rw [hR1, va_up_self]
  have r1n : R1 n = R n := by rw [hR1, va_up_ne _ _ (Ne.symm hom)]
  have r1b : ∀ q, R1 q < 3705346855594118253554271520278013051304639509300498049262642688253220148477952 := fun q => by
    rw [hR1]
    by_cases e : q = o
    · rw [e, va_up_self]; exact hs
    · rw [va_up_ne _ _ e]; exact hF.2.2.2.2 q
  have loop2 : ∀ c i (S1 : ks_S), i + c = 9 → ks_up S S1 [fc] → R n ≤ R x + R y → S1.2.2 fo = some (.inr (8, [.ref fc, .int (nI (9 * n)), .int (nI (9 * (n + 1))), .int (nI (9 * (n + 2))), .int (nI (9 * (n + 3))), .int (nI (9 * (n + 4)))])) → S1.2.2 fc = some (kL (9 * (n + 5)) (layP R1 o (R1 o + 3705346855594118253554271520278013051304639509300498049262642688253220148477952 - R1 n) i)) → ks_X l G mX5_add d 136 [(0, .ref fo), (1, .int (nI (9 * o))), (2, .int (nI (9 * x))), (3, .int (nI (9 * y))), (4, .long (iL (-((cyB (R1 o) (R1 n) i : Nat) : Int)))), (7, .int (nI i))] [] S1 (fun z S' => z = none ∧ ks_up S S' [fc] ∧ fdX S' fo fc n (va_up R o (if R n ≤ R x + R y then R x + R y - R n else R x + R y))) := by
    intro c
    induction c with
    | zero =>
      intro i S1 hi hu hle ho hc
      refine ks_iload dX5_add_136 rfl rfl ?_
      refine ks_bipush (x := nI 9) dX5_add_138 (by decide) rfl ?_
      refine ks_icmp_geN (tgt := 198) (by omega) (by decide) dX5_add_140 (by decide) rfl (fun h1 => ?_) (fun h1 => ?_)
      · obtain rfl : i = 9 := by omega
        rw [layP_9] at hc
        refine ks_ret rfl dX5_add_198 ?_
        have e9 : lay (va_up R1 o (R1 o + 3705346855594118253554271520278013051304639509300498049262642688253220148477952 - R1 n)) = lay (va_up R o (if R n ≤ R x + R y then R x + R y - R n else R x + R y)) := by
          rw [if_pos hle, ← layP_9, ← layP_9, hR1]
          funext j
          unfold layP
          split
          · apply dL_cong _ _ (by omega)
            rw [va_up_self, va_up_ne _ _ (Ne.symm hom)]
            omega
          · unfold lay
            rw [va_up_ne _ _ (by omega)]
        rw [e9] at hc
        exact ⟨rfl, hu, hF.mk hu hc (by split <;> omega)⟩
      · omega
    | succ c ih =>
      intro i S1 hi hu hle ho hc
      refine ks_iload dX5_add_136 rfl rfl ?_
      refine ks_bipush (x := nI 9) dX5_add_138 (by decide) rfl ?_
      refine ks_icmp_geN (tgt := 198) (by omega) (by decide) dX5_add_140 (by decide) rfl (fun h1 => ?_) (fun h1 => ?_)
      · omega
      · refine ks_lload dX5_add_143 rfl rfl ?_
        refine ks_aload_n dX5_add_145 rfl rfl ?_
        refine ks_getf (T := TX5) (kf := 0) kx_121 rfl in_X5 cl_X5 (by decide) ho rfl dX5_add_146 rfl ?_
        refine ks_iload_n dX5_add_149 rfl rfl ?_
        refine ks_iload dX5_add_150 rfl rfl ?_
        refine ks_addN dX5_add_152 rfl ?_
        refine ks_laldN (i := 9 * o + i) hc rfl (by omega) (by omega) dX5_add_153 rfl ?_
        rw [layP_rd R1 o (R1 o + 3705346855594118253554271520278013051304639509300498049262642688253220148477952 - R1 n) (x := o) (by omega)]
        refine ks_aload_n dX5_add_154 rfl rfl ?_
        refine ks_getf (T := TX5) (kf := 0) kx_121 rfl in_X5 cl_X5 (by decide) ho rfl dX5_add_155 rfl ?_
        refine ks_aload_n dX5_add_158 rfl rfl ?_
        refine ks_getf (T := TX5) (kf := 1) kx_123 rfl in_X5 cl_X5 (by decide) ho rfl dX5_add_159 rfl ?_
        refine ks_iload dX5_add_162 rfl rfl ?_
        refine ks_addN dX5_add_164 rfl ?_
        refine ks_laldN (i := 9 * n + i) hc rfl (by omega) (by omega) dX5_add_165 rfl ?_
        rw [layP_rd R1 o (R1 o + 3705346855594118253554271520278013051304639509300498049262642688253220148477952 - R1 n) (x := n) (by omega)]
        have d1 := dL_lt (R1 o) i
        have d2 := dL_lt (R1 n) i
        obtain ⟨s1, s2⟩ := sub_step (x := R1 o) (y := R1 n) (i := i) (r1b _) (by omega)
        have cl := cyB_le (R1 o) (R1 n) i
        refine ks_lsub dX5_add_166 rfl ?_
        refine ks_tl (y := iL ((dL (R1 o) i : Nat) - (dL (R1 n) i : Nat))) (iL_sub ((dL (R1 o) i : Nat) : Int) ((dL (R1 n) i : Nat) : Int)) ?_
        refine ks_ladd dX5_add_167 rfl ?_
        refine ks_tl (y := iL (((dL (R1 o) i : Nat) : Int) - (dL (R1 n) i : Nat) - (cyB (R1 o) (R1 n) i : Nat))) (by rw [iL_add]; congr 1; omega) ?_
        refine ks_lstore dX5_add_168 (by decide) rfl ?_
        refine ks_sub [(4, _), (0, _), (1, _), (2, _), (3, _), (7, _)] rfl ?_
        refine ks_aload_n dX5_add_170 rfl rfl ?_
        refine ks_getf (T := TX5) (kf := 0) kx_121 rfl in_X5 cl_X5 (by decide) ho rfl dX5_add_171 rfl ?_
        refine ks_iload_n dX5_add_174 rfl rfl ?_
        refine ks_iload dX5_add_175 rfl rfl ?_
        refine ks_addN dX5_add_177 rfl ?_
        refine ks_lload dX5_add_178 rfl rfl ?_
        refine ks_ldc2 dX5_add_180 kx_120 rfl ?_
        refine ks_tl (y := lN 536870911) rfl ?_
        refine ks_land dX5_add_183 rfl ?_
        refine ks_tl (y := lN (dL (R1 o + 3705346855594118253554271520278013051304639509300498049262642688253220148477952 - R1 n) i)) ((sg_mask d1 d2 cl).trans (congrArg lN s1)) ?_
        refine ks_lastNN (i := 9 * o + i) (v := dL (R1 o + 3705346855594118253554271520278013051304639509300498049262642688253220148477952 - R1 n) i) hc (by omega) (by omega) dX5_add_184 rfl ?_
        refine ks_tS (by rw [layP_up]) ?_
        refine ks_lload dX5_add_185 rfl rfl ?_
        refine ks_bipush (x := nI 29) dX5_add_187 (by decide) rfl ?_
        refine ks_lshr dX5_add_189 rfl ?_
        refine ks_tl (y := iL (-((cyB (R1 o) (R1 n) (i + 1) : Nat) : Int))) (by rw [sg_shr d1 d2 cl, s2]) ?_
        refine ks_lstore dX5_add_190 (by decide) rfl ?_
        refine ks_sub [(4, _), (0, _), (1, _), (2, _), (3, _), (7, _)] rfl ?_
        refine ks_incN (c := 1) (e := i + 1) dX5_add_192 rfl (by decide) rfl (by decide) rfl ?_
        refine ks_sub [(7, _), (0, _), (1, _), (2, _), (3, _), (4, _)] rfl ?_
        refine ks_goto (tgt := 136) dX5_add_195 (by decide) ?_
        exact ks_sub [(0, _), (1, _), (2, _), (3, _), (4, _), (7, _)] rfl (ih (i + 1) _ (by omega) (hu.trans (ks_up_set _ _ (by simp))) hle ((ks_set_ne _ _ hF.2.2.2.1).trans ho) (ks_set_same _ _ _))
  have cmp : ∀ j (S1 : ks_S) (cv : Int64), j < 9 → ks_up S S1 [fc] → S1.2.2 fo = some (.inr (8, [.ref fc, .int (nI (9 * n)), .int (nI (9 * (n + 1))), .int (nI (9 * (n + 2))), .int (nI (9 * (n + 3))), .int (nI (9 * (n + 4)))])) → S1.2.2 fc = some (kL (9 * (n + 5)) (lay R1)) → (∀ k, j < k → k < 9 → dL (R1 o) k = dL (R1 n) k) → ks_X l G mX5_add d 69 [(0, .ref fo), (1, .int (nI (9 * o))), (2, .int (nI (9 * x))), (3, .int (nI (9 * y))), (4, .long cv), (6, .int (nI j))] [] S1 (fun z S' => z = none ∧ ks_up S S' [fc] ∧ fdX S' fo fc n (va_up R o (if R n ≤ R x + R y then R x + R y - R n else R x + R y))) := by
    intro j
    have fin : ∀ (j : Nat) (S1 : ks_S) (cv : Int64), j < 9 → ks_up S S1 [fc] → S1.2.2 fo = some (.inr (8, [.ref fc, .int (nI (9 * n)), .int (nI (9 * (n + 1))), .int (nI (9 * (n + 2))), .int (nI (9 * (n + 3))), .int (nI (9 * (n + 4)))])) → S1.2.2 fc = some (kL (9 * (n + 5)) (lay R1)) → (∀ k, j < k → k < 9 → dL (R1 o) k = dL (R1 n) k) → (j = 0 ∨ ¬ dL (R1 o) j = dL (R1 n) j) → ks_X l G mX5_add d 105 [(0, .ref fo), (1, .int (nI (9 * o))), (2, .int (nI (9 * x))), (3, .int (nI (9 * y))), (4, .long cv), (6, .int (nI j))] [] S1 (fun z S' => z = none ∧ ks_up S S' [fc] ∧ fdX S' fo fc n (va_up R o (if R n ≤ R x + R y then R x + R y - R n else R x + R y))) := by
      intro j S1 cv hj hu ho hc he hor
      have cm := dL_cmp (r1b o) (r1b n) hj he
      have d1 := dL_lt (R1 o) j
      have d2 := dL_lt (R1 n) j
      refine ks_aload_n dX5_add_105 rfl rfl ?_
      refine ks_getf (T := TX5) (kf := 0) kx_121 rfl in_X5 cl_X5 (by decide) ho rfl dX5_add_106 rfl ?_
      refine ks_iload_n dX5_add_109 rfl rfl ?_
      refine ks_iload dX5_add_110 rfl rfl ?_
      refine ks_addN dX5_add_112 rfl ?_
      refine ks_laldN (i := 9 * o + j) hc rfl (by omega) (by omega) dX5_add_113 rfl ?_
      refine ks_aload_n dX5_add_114 rfl rfl ?_
      refine ks_getf (T := TX5) (kf := 0) kx_121 rfl in_X5 cl_X5 (by decide) ho rfl dX5_add_115 rfl ?_
      refine ks_aload_n dX5_add_118 rfl rfl ?_
      refine ks_getf (T := TX5) (kf := 1) kx_123 rfl in_X5 cl_X5 (by decide) ho rfl dX5_add_119 rfl ?_
      refine ks_iload dX5_add_122 rfl rfl ?_
      refine ks_addN dX5_add_124 rfl ?_
      refine ks_laldN (i := 9 * n + j) hc rfl (by omega) (by omega) dX5_add_125 rfl ?_
      rw [lay_at R1 o (by omega), lay_at R1 n (by omega)]
      refine ks_lif_ltN (tgt := 198) (by omega) (by omega) dX5_add_126 rfl dX5_add_127 (by decide) rfl (fun h2 => ?_) (fun h2 => ?_)
      · refine ks_ret rfl dX5_add_198 ?_
        have hlt : R1 o < R1 n := cm.1 h2
        have e9 : lay R1 = lay (va_up R o (if R n ≤ R x + R y then R x + R y - R n else R x + R y)) := by rw [hR1, if_neg (by omega)]
        rw [e9] at hc
        exact ⟨rfl, hu, hF.mk hu hc (by split <;> omega)⟩
      · have hle : R n ≤ R x + R y := by
          rw [← r1o, ← r1n]
          rcases hor with h0 | h0
          · subst h0
            by_cases e7 : dL (R1 o) 0 = dL (R1 n) 0
            · exact Nat.le_of_eq (dL_eq (r1b o) (r1b n) (fun k hk => by rcases Nat.eq_zero_or_pos k with h | h; rw [h]; exact e7; exact he k h hk)).symm
            · exact Nat.le_of_lt (cm.2 (by omega))
          · exact Nat.le_of_lt (cm.2 (by omega))
        refine ks_lconst (x := lN 0) dX5_add_130 (by decide) rfl ?_
        refine ks_lstore dX5_add_131 (by decide) rfl ?_
        refine ks_sub [(4, _), (0, _), (1, _), (2, _), (3, _), (6, _)] rfl ?_
        refine ks_iconst (x := nI 0) dX5_add_133 (by decide) rfl ?_
        refine ks_istore dX5_add_134 (by decide) rfl ?_
        refine ks_sub [(7, _), (0, _), (1, _), (2, _), (3, _), (4, _), (6, _)] rfl ?_
        have h7 := loop2 9 0 S1 (by decide) hu hle ho (by rw [layP_0]; exact hc)
        rw [cyB_0] at h7
        exact ks_sub [(0, _), (1, _), (2, _), (3, _), (4, _), (7, _)] rfl h7
    induction j with
    | zero =>
      intro S1 cv hj hu ho hc he
      refine ks_iload dX5_add_69 rfl rfl ?_
      refine ks_if_leN (tgt := 105) (by decide) dX5_add_71 (by decide) rfl (fun h1 => ?_) (fun h1 => ?_)
      · exact fin 0 S1 cv hj hu ho hc he (Or.inl rfl)
      · omega
    | succ j ih =>
      intro S1 cv hj hu ho hc he
      refine ks_iload dX5_add_69 rfl rfl ?_
      refine ks_if_leN (tgt := 105) (by omega) dX5_add_71 (by decide) rfl (fun h1 => ?_) (fun h1 => ?_)
      · omega
      · refine ks_aload_n dX5_add_74 rfl rfl ?_
        refine ks_getf (T := TX5) (kf := 0) kx_121 rfl in_X5 cl_X5 (by decide) ho rfl dX5_add_75 rfl ?_
        refine ks_iload_n dX5_add_78 rfl rfl ?_
        refine ks_iload dX5_add_79 rfl rfl ?_
        refine ks_addN dX5_add_81 rfl ?_
        refine ks_laldN (i := 9 * o + (j + 1)) hc rfl (by omega) (by omega) dX5_add_82 rfl ?_
        refine ks_aload_n dX5_add_83 rfl rfl ?_
        refine ks_getf (T := TX5) (kf := 0) kx_121 rfl in_X5 cl_X5 (by decide) ho rfl dX5_add_84 rfl ?_
        refine ks_aload_n dX5_add_87 rfl rfl ?_
        refine ks_getf (T := TX5) (kf := 1) kx_123 rfl in_X5 cl_X5 (by decide) ho rfl dX5_add_88 rfl ?_
        refine ks_iload dX5_add_91 rfl rfl ?_
        refine ks_addN dX5_add_93 rfl ?_
        refine ks_laldN (i := 9 * n + (j + 1)) hc rfl (by omega) (by omega) dX5_add_94 rfl ?_
        rw [lay_at R1 o (by omega), lay_at R1 n (by omega)]
        have d1 := dL_lt (R1 o) (j + 1)
        have d2 := dL_lt (R1 n) (j + 1)
        refine ks_lif_neN (tgt := 105) (by omega) (by omega) dX5_add_95 rfl dX5_add_96 (by decide) rfl (fun h2 => ?_) (fun h2 => ?_)
        · exact fin (j + 1) S1 cv hj hu ho hc he (Or.inr h2)
        · refine ks_decN (e := (j + 1) - 1) dX5_add_99 rfl (by decide) (by omega) (by decide) rfl ?_
          refine ks_sub [(6, _), (0, _), (1, _), (2, _), (3, _), (4, _)] rfl ?_
          refine ks_goto (tgt := 69) dX5_add_102 (by decide) ?_
          exact ks_sub [(0, _), (1, _), (2, _), (3, _), (4, _), (6, _)] rfl (ih S1 cv (by omega) hu ho hc (fun k hk hk9 => by
            rcases Nat.lt_or_eq_of_le (Nat.succ_le_of_lt hk) with h | h
            · exact he k h hk9
            · rw [← h]; exact h2))
  have loop1 : ∀ c i (S1 : ks_S), i + c = 9 → ks_up S S1 [fc] → S1.2.2 fo = some (.inr (8, [.ref fc, .int (nI (9 * n)), .int (nI (9 * (n + 1))), .int (nI (9 * (n + 2))), .int (nI (9 * (n + 3))), .int (nI (9 * (n + 4)))])) → S1.2.2 fc = some (kL (9 * (n + 5)) (layP R o (R x + R y) i)) → ks_X l G mX5_add d 6 [(0, .ref fo), (1, .int (nI (9 * o))), (2, .int (nI (9 * x))), (3, .int (nI (9 * y))), (4, .long (lN (cyA (R x) (R y) i))), (6, .int (nI i))] [] S1 (fun z S' => z = none ∧ ks_up S S' [fc] ∧ fdX S' fo fc n (va_up R o (if R n ≤ R x + R y then R x + R y - R n else R x + R y))) := by
    intro c
    induction c with
    | zero =>
      intro i S1 hi hu ho hc
      refine ks_iload dX5_add_6 rfl rfl ?_
      refine ks_bipush (x := nI 9) dX5_add_8 (by decide) rfl ?_
      refine ks_icmp_geN (tgt := 65) (by omega) (by decide) dX5_add_10 (by decide) rfl (fun h1 => ?_) (fun h1 => ?_)
      · obtain rfl : i = 9 := by omega
        rw [layP_9] at hc
        refine ks_bipush (x := nI 8) dX5_add_65 (by decide) rfl ?_
        refine ks_istore dX5_add_67 (by decide) rfl ?_
        refine ks_sub [(6, _), (0, _), (1, _), (2, _), (3, _), (4, _)] rfl ?_
        exact ks_sub [(0, _), (1, _), (2, _), (3, _), (4, _), (6, _)] rfl (cmp 8 S1 _ (by decide) hu ho (by rw [hR1]; exact hc) (fun k hk hk9 => absurd hk (by omega)))
      · omega
    | succ c ih =>
      intro i S1 hi hu ho hc
      refine ks_iload dX5_add_6 rfl rfl ?_
      refine ks_bipush (x := nI 9) dX5_add_8 (by decide) rfl ?_
      refine ks_icmp_geN (tgt := 65) (by omega) (by decide) dX5_add_10 (by decide) rfl (fun h1 => ?_) (fun h1 => ?_)
      · omega
      · refine ks_lload dX5_add_13 rfl rfl ?_
        refine ks_aload_n dX5_add_15 rfl rfl ?_
        refine ks_getf (T := TX5) (kf := 0) kx_121 rfl in_X5 cl_X5 (by decide) ho rfl dX5_add_16 rfl ?_
        refine ks_iload_n dX5_add_19 rfl rfl ?_
        refine ks_iload dX5_add_20 rfl rfl ?_
        refine ks_addN dX5_add_22 rfl ?_
        refine ks_laldN (i := 9 * x + i) hc rfl (by omega) (by omega) dX5_add_23 rfl ?_
        rw [layP_rd R o (R x + R y) (x := x) (by omega)]
        refine ks_aload_n dX5_add_24 rfl rfl ?_
        refine ks_getf (T := TX5) (kf := 0) kx_121 rfl in_X5 cl_X5 (by decide) ho rfl dX5_add_25 rfl ?_
        refine ks_iload_n dX5_add_28 rfl rfl ?_
        refine ks_iload dX5_add_29 rfl rfl ?_
        refine ks_addN dX5_add_31 rfl ?_
        refine ks_laldN (i := 9 * y + i) hc rfl (by omega) (by omega) dX5_add_32 rfl ?_
        rw [layP_rd R o (R x + R y) (x := y) (by omega)]
        have d1 := dL_lt (R x) i
        have d2 := dL_lt (R y) i
        obtain ⟨s1, s2⟩ := add_step (R x) (R y) i
        have cl := cyA_le (R x) (R y) i
        refine ks_laddN dX5_add_33 rfl ?_
        refine ks_laddN dX5_add_34 rfl ?_
        refine ks_lstore dX5_add_35 (by decide) rfl ?_
        refine ks_sub [(4, _), (0, _), (1, _), (2, _), (3, _), (6, _)] rfl ?_
        refine ks_aload_n dX5_add_37 rfl rfl ?_
        refine ks_getf (T := TX5) (kf := 0) kx_121 rfl in_X5 cl_X5 (by decide) ho rfl dX5_add_38 rfl ?_
        refine ks_iload_n dX5_add_41 rfl rfl ?_
        refine ks_iload dX5_add_42 rfl rfl ?_
        refine ks_addN dX5_add_44 rfl ?_
        refine ks_lload dX5_add_45 rfl rfl ?_
        refine ks_ldc2 dX5_add_47 kx_120 rfl ?_
        refine ks_tl (y := lN 536870911) rfl ?_
        refine ks_landN (k := 29) (p := 536870912) (by decide) (by decide) (by decide) (by omega) dX5_add_50 rfl ?_
        refine ks_tl (y := lN (dL (R x + R y) i)) (congrArg lN s1) ?_
        refine ks_lastNN (i := 9 * o + i) (v := dL (R x + R y) i) hc (by omega) (by omega) dX5_add_51 rfl ?_
        refine ks_tS (by rw [layP_up]) ?_
        refine ks_lload dX5_add_52 rfl rfl ?_
        refine ks_bipush (x := nI 29) dX5_add_54 (by decide) rfl ?_
        refine ks_lshrN (k := 29) (by decide) (by decide) (by omega) dX5_add_56 rfl ?_
        refine ks_tl (y := lN (cyA (R x) (R y) (i + 1))) (congrArg lN s2) ?_
        refine ks_lstore dX5_add_57 (by decide) rfl ?_
        refine ks_sub [(4, _), (0, _), (1, _), (2, _), (3, _), (6, _)] rfl ?_
        refine ks_incN (c := 1) (e := i + 1) dX5_add_59 rfl (by decide) rfl (by decide) rfl ?_
        refine ks_sub [(6, _), (0, _), (1, _), (2, _), (3, _), (4, _)] rfl ?_
        refine ks_goto (tgt := 6) dX5_add_62 (by decide) ?_
        exact ks_sub [(0, _), (1, _), (2, _), (3, _), (4, _), (6, _)] rfl (ih (i + 1) _ (by omega) (hu.trans (ks_up_set _ _ (by simp))) ((ks_set_ne _ _ hF.2.2.2.1).trans ho) (ks_set_same _ _ _))
  refine ks_of (by decide) rfl rfl (Nat.le_of_ble_eq_true rfl) ?_
  show ks_X l G mX5_add d 0 [(0, .ref fo), (1, .int (nI (9 * o))), (2, .int (nI (9 * x))), (3, .int (nI (9 * y)))] [] S _
  refine ks_lconst (x := lN 0) dX5_add_0 (by decide) rfl ?_
  refine ks_lstore dX5_add_1 (by decide) rfl ?_
  refine ks_sub [(4, _), (0, _), (1, _), (2, _), (3, _)] rfl ?_
  refine ks_iconst (x := nI 0) dX5_add_3 (by decide) rfl ?_
  refine ks_istore dX5_add_4 (by decide) rfl ?_
  refine ks_sub [(6, _), (0, _), (1, _), (2, _), (3, _), (4, _)] rfl ?_
  have h7 := loop1 9 0 S (by decide) (ks_up.rf _ _) hF.1 (by rw [layP_0]; exact hF.2.1)
  rw [cyA_0] at h7
  exact ks_sub [(0, _), (1, _), (2, _), (3, _), (4, _), (6, _)] rfl h7
