/-! FIELD: loadWords -/
def wl (f : Nat → Int32) (i : Nat) : Int64 := ((if 0 < 7 - 29 * i / 32 then ((f (7 - 29 * i / 32)).toInt64 &&& lN 4294967295) ||| ((f (7 - 29 * i / 32 - 1)).toInt64 <<< ((nI 32).toInt64 &&& 63)) else (f (7 - 29 * i / 32)).toInt64 &&& lN 4294967295).toUInt64 >>> ((nI (29 * i % 32)).toInt64.toUInt64 &&& Int64.toUInt64 63)).toInt64 &&& lN 536870911
set_option maxRecDepth 100000 in
set_option maxHeartbeats 800000 in
theorem c_fd_loadWords {l : Launch} {G : ks_G} {d : Nat} {S : ks_S} {fo fc n : Nat} {R : Nat → Nat} (hF : fdX S fo fc n R) {o y v : Nat} {f : Nat → Int32} (ho : o < n + 5) (hy : S.2.2 y = some (kI 8 f)) (hyc : y ≠ fc) (hv : v < 3705346855594118253554271520278013051304639509300498049262642688253220148477952) (hl : ∀ i, i < 9 → wl f i = lN (dL v i)) : ks_P l G yX5_loadWords mX5_loadWords d [.ref fo, .int (nI (9 * o)), .ref y] S (fun z S' => z = none ∧ ks_up S S' [fc] ∧ fdX S' fo fc n (va_up R o v)) := by
  have hn := hF.2.2.1
  have loop : ∀ (u i : Nat) (S1 : ks_S), i + u = 9 → ks_up S S1 [fc] → S1.2.2 fc = some (kL (9 * (n + 5)) (layP R o v i)) → ks_X l G mX5_loadWords d 2 [(0, .ref fo), (1, .int (nI (9 * o))), (2, .ref y), (3, .int (nI i))] [] S1 (fun z S' => z = none ∧ ks_up S S' [fc] ∧ fdX S' fo fc n (va_up R o v)) := by
    intro u
    induction u with
    | zero =>
      intro i S1 hiu hu hc
      have a0 := hu.at hF.1 (by simp only [List.mem_cons, List.not_mem_nil, or_false]; exact hF.2.2.2.1)
      have ay := hu.at hy (by simp only [List.mem_cons, List.not_mem_nil, or_false]; exact hyc)
      refine ks_iload_n dX5_loadWords_2 rfl rfl ?_
      refine ks_bipush (x := nI 9) dX5_loadWords_3 (by decide) rfl ?_
      refine ks_icmp_geN (tgt := 81) (by omega) (by decide) dX5_loadWords_5 (by decide) rfl (fun h1 => ?_) (fun h1 => ?_)
      · refine ks_ret rfl dX5_loadWords_81 ?_
        obtain rfl : i = 9 := by omega
        rw [layP_9] at hc
        exact ⟨rfl, hu, hF.mk hu hc hv⟩
      · omega
    | succ u ih =>
      intro i S1 hiu hu hc
      have a0 := hu.at hF.1 (by simp only [List.mem_cons, List.not_mem_nil, or_false]; exact hF.2.2.2.1)
      have ay := hu.at hy (by simp only [List.mem_cons, List.not_mem_nil, or_false]; exact hyc)
      refine ks_iload_n dX5_loadWords_2 rfl rfl ?_
      refine ks_bipush (x := nI 9) dX5_loadWords_3 (by decide) rfl ?_
      refine ks_icmp_geN (tgt := 81) (by omega) (by decide) dX5_loadWords_5 (by decide) rfl (fun h1 => ?_) (fun h1 => ?_)
      · omega
      · have hli := hl i (by omega)
        unfold wl at hli
        refine ks_bipush (x := nI 29) dX5_loadWords_8 (by decide) rfl ?_
        refine ks_iload_n dX5_loadWords_10 rfl rfl ?_
        refine ks_mulN dX5_loadWords_11 rfl ?_
        refine ks_istore dX5_loadWords_12 (by decide) rfl ?_
        refine ks_sub [(4, _), (0, _), (1, _), (2, _), (3, _)] rfl ?_
        refine ks_bipush (x := nI 7) dX5_loadWords_14 (by decide) rfl ?_
        refine ks_iload dX5_loadWords_16 rfl rfl ?_
        refine ks_bipush (x := nI 32) dX5_loadWords_18 (by decide) rfl ?_
        refine ks_divN (by omega) (by decide) (by decide) dX5_loadWords_20 rfl ?_
        refine ks_subN (by omega) dX5_loadWords_21 rfl ?_
        refine ks_istore dX5_loadWords_22 (by decide) rfl ?_
        refine ks_sub [(5, _), (0, _), (1, _), (2, _), (3, _), (4, _)] rfl ?_
        refine ks_aload_n dX5_loadWords_24 rfl rfl ?_
        refine ks_iload dX5_loadWords_25 rfl rfl ?_
        refine ks_ialdN (i := 7 - ((29 * i) / 32)) ay rfl (by omega) (by decide) dX5_loadWords_27 rfl ?_
        refine ks_i2l dX5_loadWords_28 rfl ?_
        refine ks_ldc2 dX5_loadWords_29 kx_119 rfl ?_
        refine ks_tl (y := lN 4294967295) rfl ?_
        refine ks_land dX5_loadWords_32 rfl ?_
        refine ks_lstore dX5_loadWords_33 (by decide) rfl ?_
        refine ks_sub [(6, _), (0, _), (1, _), (2, _), (3, _), (4, _), (5, _)] rfl ?_
        refine ks_iload dX5_loadWords_35 rfl rfl ?_
        refine ks_if_leN (tgt := 55) (by omega) dX5_loadWords_37 (by decide) rfl (fun h2 => ?_) (fun h2 => ?_)
        · rw [if_neg (by omega)] at hli
          refine ks_aload_n dX5_loadWords_55 rfl rfl ?_
          refine ks_getf (T := TX5) (kf := 0) kx_121 rfl in_X5 cl_X5 (by decide) a0 rfl dX5_loadWords_56 rfl ?_
          refine ks_iload_n dX5_loadWords_59 rfl rfl ?_
          refine ks_iload_n dX5_loadWords_60 rfl rfl ?_
          refine ks_addN dX5_loadWords_61 rfl ?_
          refine ks_lload dX5_loadWords_62 rfl rfl ?_
          refine ks_iload dX5_loadWords_64 rfl rfl ?_
          refine ks_bipush (x := nI 32) dX5_loadWords_66 (by decide) rfl ?_
          refine ks_remN (by omega) (by decide) (by decide) dX5_loadWords_68 rfl ?_
          refine ks_lushr dX5_loadWords_69 rfl ?_
          refine ks_ldc2 dX5_loadWords_70 kx_120 rfl ?_
          refine ks_tl (y := lN 536870911) rfl ?_
          refine ks_land dX5_loadWords_73 rfl ?_
          refine ks_tl (y := lN (dL v i)) hli ?_
          refine ks_lastNN (i := 9 * o + i) (v := dL v i) hc (by omega) (by omega) dX5_loadWords_74 rfl ?_
          refine ks_tS (S' := ks_set S1 fc (kL (9 * (n + 5)) (layP R o v (i + 1)))) (by rw [layP_up]) ?_
          refine ks_sub [(0, _), (1, _), (2, _), (3, _)] rfl ?_
          refine ks_incN (c := 1) (e := i + 1) dX5_loadWords_75 rfl (by decide) rfl (by decide) rfl ?_
          refine ks_sub [(3, _), (0, _), (1, _), (2, _)] rfl ?_
          refine ks_goto (tgt := 2) dX5_loadWords_78 (by decide) ?_
          exact ks_sub [(0, _), (1, _), (2, _), (3, _)] rfl (ih (i + 1) _ (by omega) (hu.trans (ks_up_set _ _ List.mem_cons_self)) (ks_set_same _ _ _))
        · rw [if_pos h2] at hli
          refine ks_lload dX5_loadWords_40 rfl rfl ?_
          refine ks_aload_n dX5_loadWords_42 rfl rfl ?_
          refine ks_iload dX5_loadWords_43 rfl rfl ?_
          refine ks_iconst (x := nI 1) dX5_loadWords_45 (by decide) rfl ?_
          refine ks_subN (by omega) dX5_loadWords_46 rfl ?_
          refine ks_ialdN (i := 7 - ((29 * i) / 32) - 1) ay rfl (by omega) (by decide) dX5_loadWords_47 rfl ?_
          refine ks_i2l dX5_loadWords_48 rfl ?_
          refine ks_bipush (x := nI 32) dX5_loadWords_49 (by decide) rfl ?_
          refine ks_lshl dX5_loadWords_51 rfl ?_
          refine ks_lor dX5_loadWords_52 rfl ?_
          refine ks_lstore dX5_loadWords_53 (by decide) rfl ?_
          refine ks_sub [(6, _), (0, _), (1, _), (2, _), (3, _), (4, _), (5, _)] rfl ?_
          refine ks_aload_n dX5_loadWords_55 rfl rfl ?_
          refine ks_getf (T := TX5) (kf := 0) kx_121 rfl in_X5 cl_X5 (by decide) a0 rfl dX5_loadWords_56 rfl ?_
          refine ks_iload_n dX5_loadWords_59 rfl rfl ?_
          refine ks_iload_n dX5_loadWords_60 rfl rfl ?_
          refine ks_addN dX5_loadWords_61 rfl ?_
          refine ks_lload dX5_loadWords_62 rfl rfl ?_
          refine ks_iload dX5_loadWords_64 rfl rfl ?_
          refine ks_bipush (x := nI 32) dX5_loadWords_66 (by decide) rfl ?_
          refine ks_remN (by omega) (by decide) (by decide) dX5_loadWords_68 rfl ?_
          refine ks_lushr dX5_loadWords_69 rfl ?_
          refine ks_ldc2 dX5_loadWords_70 kx_120 rfl ?_
          refine ks_tl (y := lN 536870911) rfl ?_
          refine ks_land dX5_loadWords_73 rfl ?_
          refine ks_tl (y := lN (dL v i)) hli ?_
          refine ks_lastNN (i := 9 * o + i) (v := dL v i) hc (by omega) (by omega) dX5_loadWords_74 rfl ?_
          refine ks_tS (S' := ks_set S1 fc (kL (9 * (n + 5)) (layP R o v (i + 1)))) (by rw [layP_up]) ?_
          refine ks_sub [(0, _), (1, _), (2, _), (3, _)] rfl ?_
          refine ks_incN (c := 1) (e := i + 1) dX5_loadWords_75 rfl (by decide) rfl (by decide) rfl ?_
          refine ks_sub [(3, _), (0, _), (1, _), (2, _)] rfl ?_
          refine ks_goto (tgt := 2) dX5_loadWords_78 (by decide) ?_
          exact ks_sub [(0, _), (1, _), (2, _), (3, _)] rfl (ih (i + 1) _ (by omega) (hu.trans (ks_up_set _ _ List.mem_cons_self)) (ks_set_same _ _ _))
  refine ks_of (by decide) rfl rfl (Nat.le_of_ble_eq_true rfl) ?_
  show ks_X l G mX5_loadWords d 0 [(0, .ref fo), (1, .int (nI (9 * o))), (2, .ref y)] [] S _
  refine ks_iconst (x := nI 0) dX5_loadWords_0 (by decide) rfl ?_
  refine ks_istore_n dX5_loadWords_1 (by decide) rfl ?_
  refine ks_sub [(3, _), (0, _), (1, _), (2, _)] rfl ?_
  exact ks_sub [(0, _), (1, _), (2, _), (3, _)] rfl (loop 9 0 S rfl (ks_up.rf _ _) (by rw [layP_0]; exact hF.2.1))
set_option maxRecDepth 100000 in
set_option maxHeartbeats 800000 in
theorem c_fd_init {l : Launch} {G : ks_G} {d : Nat} {S : ks_S} {b y n v : Nat} {f : Nat → Int32} (hb : S.2.2 b = some (.inr (8, [.null, .int (nI 0), .int (nI 0), .int (nI 0), .int (nI 0), .int (nI 0)]))) (hS1 : S.1 = b + 1) (hBB : b + 2 < ks_B) (hn : n ≤ 100) (hy : S.2.2 y = some (kI 8 f)) (hyB : ks_B ≤ y) (hv : v < 3705346855594118253554271520278013051304639509300498049262642688253220148477952) (hl : ∀ i, i < 9 → wl f i = lN (dL v i)) : ks_P l G yX5_init mX5_init (d + 1) [.ref b, .ref y, .int (nI n)] S (fun z S' => z = none ∧ S'.1 = b + 2 ∧ S'.2.1 = S.2.1 + 9 * (n + 5) ∧ (∀ a, a < b ∨ b + 1 < a → S'.2.2 a = S.2.2 a) ∧ fdX S' b (b + 1) n (va_up (fun _ => 0) n v)) := by
  refine ks_of (by decide) rfl rfl (Nat.le_of_ble_eq_true rfl) ?_
  show ks_X l G mX5_init (d + 1) 0 [(0, .ref b), (1, .ref y), (2, .int (nI n))] [] S _
  refine ks_aload_n dX5_init_0 rfl rfl ?_
  refine ks_objInit kx_114 kx_43 kx_44 (by omega) (by decide) dX5_init_1 rfl ?_
  refine ks_aload_n dX5_init_4 rfl rfl ?_
  refine ks_bipush (x := nI 9) dX5_init_5 (by decide) rfl ?_
  refine ks_iload_n dX5_init_7 rfl rfl ?_
  refine ks_iconst (x := nI 5) dX5_init_8 (by decide) rfl ?_
  refine ks_addN dX5_init_9 rfl ?_
  refine ks_mulN dX5_init_10 rfl ?_
  refine ks_ti (y := nI (9 * (n + 5))) rfl ?_
  refine ks_newLx (N := 9 * (n + 5)) (x := b + 1) hS1 kx_142 (by omega) (by omega) dX5_init_11 rfl (fun T1 q1 => ?_)
  refine ks_putF (T := TX5) (kf := 0) kx_121 rfl rfl rfl in_X5 tyX5_ok nmX5 cl_X5 (by decide) ((q1.2.2.2 _ (by omega)).trans hb) (Nat.le_of_ble_eq_true rfl) rfl rfl rfl rfl dX5_init_13 rfl ?_
  refine ks_aload_n dX5_init_16 rfl rfl ?_
  refine ks_bipush (x := nI 9) dX5_init_17 (by decide) rfl ?_
  refine ks_iload_n dX5_init_19 rfl rfl ?_
  refine ks_mulN dX5_init_20 rfl ?_
  refine ks_putF (T := TX5) (kf := 1) kx_123 rfl rfl rfl in_X5 tyX5_ok nmX5 cl_X5 (by decide) (ks_set_same _ _ _) (Nat.le_of_ble_eq_true rfl) rfl rfl rfl rfl dX5_init_21 rfl ?_
  refine ks_aload_n dX5_init_24 rfl rfl ?_
  refine ks_aload_n dX5_init_25 rfl rfl ?_
  refine ks_getf (T := TX5) (kf := 1) kx_123 rfl in_X5 cl_X5 (by decide) (ks_set_same _ _ _) rfl dX5_init_26 rfl ?_
  refine ks_bipush (x := nI 9) dX5_init_29 (by decide) rfl ?_
  refine ks_addN dX5_init_31 rfl ?_
  refine ks_putF (T := TX5) (kf := 2) kx_125 rfl rfl rfl in_X5 tyX5_ok nmX5 cl_X5 (by decide) (ks_set_same _ _ _) (Nat.le_of_ble_eq_true rfl) rfl rfl rfl rfl dX5_init_32 rfl ?_
  refine ks_aload_n dX5_init_35 rfl rfl ?_
  refine ks_aload_n dX5_init_36 rfl rfl ?_
  refine ks_getf (T := TX5) (kf := 2) kx_125 rfl in_X5 cl_X5 (by decide) (ks_set_same _ _ _) rfl dX5_init_37 rfl ?_
  refine ks_bipush (x := nI 9) dX5_init_40 (by decide) rfl ?_
  refine ks_addN dX5_init_42 rfl ?_
  refine ks_putF (T := TX5) (kf := 3) kx_126 rfl rfl rfl in_X5 tyX5_ok nmX5 cl_X5 (by decide) (ks_set_same _ _ _) (Nat.le_of_ble_eq_true rfl) rfl rfl rfl rfl dX5_init_43 rfl ?_
  refine ks_aload_n dX5_init_46 rfl rfl ?_
  refine ks_aload_n dX5_init_47 rfl rfl ?_
  refine ks_getf (T := TX5) (kf := 3) kx_126 rfl in_X5 cl_X5 (by decide) (ks_set_same _ _ _) rfl dX5_init_48 rfl ?_
  refine ks_bipush (x := nI 9) dX5_init_51 (by decide) rfl ?_
  refine ks_addN dX5_init_53 rfl ?_
  refine ks_putF (T := TX5) (kf := 4) kx_127 rfl rfl rfl in_X5 tyX5_ok nmX5 cl_X5 (by decide) (ks_set_same _ _ _) (Nat.le_of_ble_eq_true rfl) rfl rfl rfl rfl dX5_init_54 rfl ?_
  refine ks_aload_n dX5_init_57 rfl rfl ?_
  refine ks_aload_n dX5_init_58 rfl rfl ?_
  refine ks_getf (T := TX5) (kf := 4) kx_127 rfl in_X5 cl_X5 (by decide) (ks_set_same _ _ _) rfl dX5_init_59 rfl ?_
  refine ks_bipush (x := nI 9) dX5_init_62 (by decide) rfl ?_
  refine ks_addN dX5_init_64 rfl ?_
  refine ks_putF (T := TX5) (kf := 5) kx_128 rfl rfl rfl in_X5 tyX5_ok nmX5 cl_X5 (by decide) (ks_set_same _ _ _) (Nat.le_of_ble_eq_true rfl) rfl rfl rfl rfl dX5_init_65 rfl ?_
  refine ks_aload_n dX5_init_68 rfl rfl ?_
  refine ks_aload_n dX5_init_69 rfl rfl ?_
  refine ks_getf (T := TX5) (kf := 1) kx_123 rfl in_X5 cl_X5 (by decide) (ks_set_same _ _ _) rfl dX5_init_70 rfl ?_
  refine ks_aload_n dX5_init_73 rfl rfl ?_
  have lz : lay (fun _ => 0) = fun _ => 0 := by
    funext j
    unfold lay dL
    rw [Nat.zero_div]
  obtain ⟨S3, hS3⟩ : ∃ S3 : ks_S, S3 = _ := ⟨_, rfl⟩
  refine ks_tS (S' := S3) hS3.symm ?_
  have F3 : fdX S3 b (b + 1) n (fun _ => 0) := by
    refine ⟨?_, ?_, hn, by omega, fun q => by show 0 < _; decide⟩
    · rw [hS3]; exact (ks_set_same _ _ _)
    · rw [hS3, lz]; exact ((ks_set_ne _ _ (by omega)).trans ((ks_set_ne _ _ (by omega)).trans ((ks_set_ne _ _ (by omega)).trans ((ks_set_ne _ _ (by omega)).trans ((ks_set_ne _ _ (by omega)).trans ((ks_set_ne _ _ (by omega)).trans q1.2.2.1))))))
  have y3 : S3.2.2 y = some (kI 8 f) := by rw [hS3]; exact ((ks_set_ne _ _ (Ne.symm (by omega))).trans ((ks_set_ne _ _ (Ne.symm (by omega))).trans ((ks_set_ne _ _ (Ne.symm (by omega))).trans ((ks_set_ne _ _ (Ne.symm (by omega))).trans ((ks_set_ne _ _ (Ne.symm (by omega))).trans ((ks_set_ne _ _ (Ne.symm (by omega))).trans ((q1.2.2.2 _ (by omega)).trans hy)))))))
  have g3 : ∀ a9, a9 < b ∨ b + 1 < a9 → S3.2.2 a9 = S.2.2 a9 := fun a9 ha => by rw [hS3]; exact ((ks_set_ne _ _ (by omega)).trans ((ks_set_ne _ _ (by omega)).trans ((ks_set_ne _ _ (by omega)).trans ((ks_set_ne _ _ (by omega)).trans ((ks_set_ne _ _ (by omega)).trans ((ks_set_ne _ _ (by omega)).trans ((q1.2.2.2 _ (by omega)).trans rfl)))))))
  have m3 : S3.1 = b + 2 ∧ S3.2.1 = S.2.1 + 9 * (n + 5) := by rw [hS3]; exact ⟨q1.1, q1.2.1⟩
  refine ks_callV (n := 2) (M' := mX5_loadWords) (c_fd_loadWords (d := d) (o := n) (v := v) F3 (by omega) y3 (by omega) hv hl) F3.1 cl_X5 rfl kx_115 kx_116 kx_117 kx_5 kx_118 (by decide +kernel) rfl (by decide) (Nat.le_of_ble_eq_true rfl) rfl dX5_init_74 rfl (fun z1 T2 y1 => ?_)
  obtain ⟨rfl, w1, F4⟩ := y1
  refine ks_ret rfl dX5_init_77 ?_
  exact ⟨rfl, w1.1.trans m3.1, w1.2.1.trans m3.2, fun a ha => (w1.2.2 a (by rw [List.mem_singleton]; omega)).trans (g3 a ha), F4⟩
