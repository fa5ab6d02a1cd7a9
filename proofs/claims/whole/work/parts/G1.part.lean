/-! THE REFERENCE: a part of a signature -/
def muN : Nat := 1435021631
def riN : Nat := 98562742561918706241446412617699626731164144128788972284189895985653995782166
theorem rN_n : rgN nN muN riN := ⟨by decide +kernel, by decide +kernel, by decide +kernel⟩
theorem or_low {w b s : Nat} (hw : w < 2 ^ s) : nI w ||| nI (b * 2 ^ s) = nI (b * 2 ^ s + w) := by
  rw [Int32.or_comm, ks_orN (k := s) ⟨b, Nat.mul_comm _ _⟩ hw]
theorem p256_4 (i : Nat) : 256 ^ i = 2 ^ (8 * (i % 4)) * 4294967296 ^ (i / 4) := by
  rw [show (256 : Nat) = 2 ^ 8 from rfl, show (4294967296 : Nat) = 2 ^ 32 from rfl, ← Nat.pow_mul, ← Nat.pow_mul, ← Nat.pow_add]
  congr 1
  omega
theorem sh_b {b i : Nat} (hb : b < 256) : b * 2 ^ (8 * (i % 4)) < 2 ^ 32 := by
  have h : i % 4 = 0 ∨ i % 4 = 1 ∨ i % 4 = 2 ∨ i % 4 = 3 := by omega
  rcases h with h | h | h | h <;> rw [h] <;> omega
/-- one byte more of a number -/
theorem pt_step {g F : Nat → Nat} {i : Nat} (hg : ∀ j, j < 8 → g j < 4294967296) (hF : ∀ k, F k < 256) (hi : i < 32) (h : dg 4294967296 g 8 = dg 256 F i) : g (i / 4) < 2 ^ (8 * (i % 4)) ∧ (∀ j, j < 8 → va_up g (i / 4) (F i * 2 ^ (8 * (i % 4)) + g (i / 4)) j < 4294967296) ∧ dg 4294967296 (va_up g (i / 4) (F i * 2 ^ (8 * (i % 4)) + g (i / 4))) 8 = dg 256 F (i + 1) := by
  have h4 : i / 4 < 8 := by omega
  have hw : g (i / 4) < 2 ^ (8 * (i % 4)) := by
    rw [← dg_dig (B := 4294967296) (by decide) hg h4, h]
    have h1 : dg 256 F i < 256 ^ i := dg_lt (B := 256) (fun k _ => hF k)
    rw [p256_4, Nat.mul_comm] at h1
    exact Nat.lt_of_le_of_lt (Nat.mod_le _ _) (Nat.div_lt_of_lt_mul h1)
  refine ⟨hw, fun j hj => ?_, ?_⟩
  · by_cases e : j = i / 4
    · subst e
      rw [va_up_self]
      have q := hF i
      have h : i % 4 = 0 ∨ i % 4 = 1 ∨ i % 4 = 2 ∨ i % 4 = 3 := by omega
      rcases h with h | h | h | h <;> rw [h] at hw ⊢ <;> omega
    · rw [va_up_ne _ _ e]; exact hg j hj
  · have h1 := dg_up (B := 4294967296) (f := g) (n := 8) (j := i / 4) (c := F i * 2 ^ (8 * (i % 4)) + g (i / 4)) h4
    rw [Nat.add_mul, Nat.mul_assoc, ← p256_4] at h1
    rw [dg_s 256 F i, ← h]
    omega
set_option maxRecDepth 100000 in
set_option maxHeartbeats 1600000 in
theorem c_md_part {l : Launch} {G : ks_G} {d : Nat} {S : ks_S} {V : Nat → Value} {y N a n t T : Nat} {g : Nat → Nat} (hO : S.2.2 290 = some (rfE V)) (hF : rgF S 555 nN muN) (hy : S.2.2 y = some (kB N g)) (kg : kO g) (han : a + n ≤ N) (hn1 : 1 ≤ n) (hN : N < 2 ^ 28) (hT : wA S t T) (ht : 329 ≤ t ∧ t ≤ 340) : ks_P l G yX16_part mX16_part (d + 1) [.ref 290, .ref y, .int (nI a), .int (nI n), .ref t] S (fun z S' => z = some (.int (ks_bo (inN (beW g a n)))) ∧ ks_up S S' [t] ∧ (∃ T', wA S' t T') ∧ (inN (beW g a n) = true → wA S' t (beW g a n))) := by
  obtain ⟨gt, egt, bgt, dgt⟩ := id hT
  have kB : 600 < ks_B := by decide
  have tB : t < ks_B := by omega
  have yt : y ≠ t := ks_ne hy egt (fun e => by cases e)
  obtain ⟨F, hFd⟩ : ∃ F : Nat → Nat, F = fun k => g (a + n - 1 - k) := ⟨_, rfl⟩
  have kF : ∀ k, F k < 256 := fun k => by rw [hFd]; exact kg _
  have eW : beW g a n = dg 256 F n := by rw [hFd]; rfl
  have l3 : ∀ (f : Nat), a ≤ f → f ≤ a + n → a + n - f ≤ 32 → (∀ j, a ≤ j → j < f → g j = 0) → ∀ (u i : Nat) (S1 : ks_S) (g1 : Nat → Nat), i + u = a + n - f → ks_up S S1 [t] → S1.2.2 t = some (kN 8 g1) → (∀ j, j < 8 → g1 j < 4294967296) → dg 4294967296 g1 8 = dg 256 F i → ks_X l G mX16_part (d + 1) 62 [(0, .ref 290), (1, .ref y), (2, .int (nI a)), (3, .int (nI n)), (4, .ref t), (5, .int (nI f)), (6, .int (nI i))] [] S1 (fun z S' => z = some (.int (ks_bo (inN (beW g a n)))) ∧ ks_up S S' [t] ∧ (∃ T', wA S' t T') ∧ (inN (beW g a n) = true → wA S' t (beW g a n))) := by
    intro f hf1 hf2 hf3 hfz u
    induction u with
    | zero =>
      intro i S1 g1 hi hu e1 b1 hv
      have o1 := hu.at hO (by rw [List.mem_singleton]; omega)
      have ey := hu.at hy (by rw [List.mem_singleton]; exact yt)
      have ei : i = a + n - f := hi
      have eV : dg 256 F n = dg 256 F i := dg_cut (by omega) (fun j h1 h2 => by rw [hFd]; exact hfz _ (by omega) (by omega))
      have hw : wA S1 t (beW g a n) := ⟨g1, e1, b1, by rw [eW, eV]; exact hv⟩
      have F1 : rgF S1 555 nN muN := hF.up hu (fun x hx => by rw [List.mem_singleton] at hx; omega)
      have r1 := F1.1.1
      refine ks_iload dX16_part_62 rfl rfl ?_
      refine ks_iload_n dX16_part_64 rfl rfl ?_
      refine ks_iload_n dX16_part_65 rfl rfl ?_
      refine ks_addN dX16_part_66 rfl ?_
      refine ks_iload dX16_part_67 rfl rfl ?_
      refine ks_subN (by omega) dX16_part_69 rfl ?_
      refine ks_icmp_geN (tgt := 111) (by omega) (by omega) dX16_part_70 (by decide) rfl (fun h1 => ?_) (fun h1 => absurd h1 (by omega))
      refine ks_aload dX16_part_111 rfl rfl ?_
      refine ks_callS (n := 1) (M' := mX15_isZero) (c_rg_isZero (d := d) hw tB) kx_2306 kx_2307 kx_33 kx_2308 (by decide +kernel) rfl (by decide) (Nat.le_of_ble_eq_true rfl) rfl dX16_part_113 rfl (fun z2 T2 y2 => ?_)
      obtain ⟨rfl, hT2⟩ := y2
      obtain rfl := hT2.symm
      refine ks_if_neZ (tgt := 138) dX16_part_116 (by decide) rfl (fun h2 => ?_) (fun h2 => ?_)
      · refine ks_iconst (x := nI 0) dX16_part_138 (by decide) rfl ?_
        refine ks_zret rfl rfl dX16_part_139 ?_
        have h0 := of_decide_eq_true h2
        have en : inN (beW g a n) = false := decide_eq_false (fun h => by omega)
        rw [en]
        exact ⟨rfl, hu, ⟨_, hw⟩, fun h => absurd h (by decide)⟩
      · have h0 := of_decide_eq_false h2
        refine ks_aload dX16_part_119 rfl rfl ?_
        refine ks_aload_n dX16_part_121 rfl rfl ?_
        refine ks_getf (T := TX16) (kf := 16) kx_2384 rfl in_X16 cl_X16 (by decide) o1 rfl dX16_part_122 rfl ?_
        refine ks_getN (T := TX15) (kf := 0) kx_1879 rfl in_X15 cl_X15 (by decide) r1 rfl dX16_part_125 rfl ?_
        refine ks_callS (n := 2) (M' := mX15_compare) (c_rg_compare (d := d) hw F1.1.2.1 tB (by decide)) kx_2035 kx_1870 kx_33 kx_1871 (by decide +kernel) rfl (by decide) (Nat.le_of_ble_eq_true rfl) rfl dX16_part_128 rfl (fun z3 T3 y3 => ?_)
        obtain ⟨rfl, hT3⟩ := y3
        obtain rfl := hT3.symm
        refine ks_if_ge (tgt := 138) dX16_part_131 (by decide) rfl (fun h3 => ?_) (fun h3 => ?_)
        · refine ks_iconst (x := nI 0) dX16_part_138 (by decide) rfl ?_
          refine ks_zret rfl rfl dX16_part_139 ?_
          have hl : ¬ beW g a n < nN := fun h => absurd (cmpN_lt.mpr h) (by exact Int32.not_lt.mpr h3)
          have en : inN (beW g a n) = false := decide_eq_false (fun h => hl h.2)
          rw [en]
          exact ⟨rfl, hu, ⟨_, hw⟩, fun h => absurd h (by decide)⟩
        · refine ks_iconst (x := nI 1) dX16_part_134 (by decide) rfl ?_
          refine ks_goto (tgt := 139) dX16_part_135 (by decide) ?_
          refine ks_zret rfl rfl dX16_part_139 ?_
          have hl : beW g a n < nN := cmpN_lt.mp (Int32.not_le.mp h3)
          have en : inN (beW g a n) = true := decide_eq_true ⟨by omega, hl⟩
          rw [en]
          exact ⟨rfl, hu, ⟨_, hw⟩, fun _ => hw⟩
    | succ u ih =>
      intro i S1 g1 hi hu e1 b1 hv
      have o1 := hu.at hO (by rw [List.mem_singleton]; omega)
      have ey := hu.at hy (by rw [List.mem_singleton]; exact yt)
      have i32 : i < 32 := by omega
      obtain ⟨s1, s2, s3⟩ := pt_step b1 kF i32 hv
      have eFi : F i = g (a + n - 1 - i) := by rw [hFd]
      have hsh : g (a + n - 1 - i) * 2 ^ (8 * (i % 4)) < 2 ^ 32 := sh_b (kg _)
      refine ks_iload dX16_part_62 rfl rfl ?_
      refine ks_iload_n dX16_part_64 rfl rfl ?_
      refine ks_iload_n dX16_part_65 rfl rfl ?_
      refine ks_addN dX16_part_66 rfl ?_
      refine ks_iload dX16_part_67 rfl rfl ?_
      refine ks_subN (by omega) dX16_part_69 rfl ?_
      refine ks_icmp_geN (tgt := 111) (by omega) (by omega) dX16_part_70 (by decide) rfl (fun h1 => absurd h1 (by omega)) (fun h1 => ?_)
      refine ks_aload dX16_part_73 rfl rfl ?_
      refine ks_iload dX16_part_75 rfl rfl ?_
      refine ks_iconst (x := nI 4) dX16_part_77 (by decide) rfl ?_
      refine ks_divN (by omega) (by decide) (by decide) dX16_part_78 rfl ?_
      refine ks_dup2_11 dX16_part_79 rfl rfl rfl ?_
      refine ks_ialdN (i := i / 4) e1 rfl (by omega) (by decide) dX16_part_80 rfl ?_
      refine ks_aload_n dX16_part_81 rfl rfl ?_
      refine ks_iload_n dX16_part_82 rfl rfl ?_
      refine ks_iload_n dX16_part_83 rfl rfl ?_
      refine ks_addN dX16_part_84 rfl ?_
      refine ks_iconst (x := nI 1) dX16_part_85 (by decide) rfl ?_
      refine ks_subN (by omega) dX16_part_86 rfl ?_
      refine ks_iload dX16_part_87 rfl rfl ?_
      refine ks_subN (by omega) dX16_part_89 rfl ?_
      refine ks_baldB (i := a + n - 1 - i) ey rfl (by omega) (by omega) dX16_part_90 rfl ?_
      refine ks_sipush (x := nI 255) dX16_part_91 (by decide) rfl ?_
      refine ks_andB (kg _) dX16_part_94 rfl ?_
      have hy94 : g (a + n - 1 - i) < 256 := (kg _)
      refine ks_bipush (x := nI 8) dX16_part_95 (by decide) rfl ?_
      refine ks_iload dX16_part_97 rfl rfl ?_
      refine ks_iconst (x := nI 4) dX16_part_99 (by decide) rfl ?_
      refine ks_remN (by omega) (by decide) (by decide) dX16_part_100 rfl ?_
      refine ks_mulN dX16_part_101 rfl ?_
      refine ks_shlN (k := 8 * (i % 4)) (s_l _ (by omega)) hsh dX16_part_102 rfl ?_
      refine ks_ior dX16_part_103 rfl ?_
      refine ks_ti (y := nI (F i * 2 ^ (8 * (i % 4)) + g1 (i / 4))) (by rw [eFi]; exact or_low s1) ?_
      refine ks_iastNN (i := i / 4) (v := F i * 2 ^ (8 * (i % 4)) + g1 (i / 4)) tB e1 (by omega) (by decide) dX16_part_104 rfl ?_
      refine ks_incN (c := 1) (e := i + 1) dX16_part_105 rfl (by decide) rfl (by decide) rfl ?_
      refine ks_sub [(6, _), (0, _), (1, _), (2, _), (3, _), (4, _), (5, _)] rfl ?_
      refine ks_goto (tgt := 62) dX16_part_108 (by decide) ?_
      refine ks_sub [(0, _), (1, _), (2, _), (3, _), (4, _), (5, _), (6, _)] rfl (ih (i + 1) _ _ (by omega) (hu.trans (ks_up_set _ _ (List.mem_singleton.mpr rfl))) (ks_set_same _ _ _) s2 s3)
  have l2 : ∀ (f : Nat), a ≤ f → f ≤ a + n → (∀ j, a ≤ j → j < f → g j = 0) → (f = a + n ∨ ¬ g f = 0) → ks_X l G mX16_part (d + 1) 24 [(0, .ref 290), (1, .ref y), (2, .int (nI a)), (3, .int (nI n)), (4, .ref t), (5, .int (nI f))] [] S (fun z S' => z = some (.int (ks_bo (inN (beW g a n)))) ∧ ks_up S S' [t] ∧ (∃ T', wA S' t T') ∧ (inN (beW g a n) = true → wA S' t (beW g a n))) := by
    intro f hf1 hf2 hfz hfe
    refine ks_iload_n dX16_part_24 rfl rfl ?_
    refine ks_iload_n dX16_part_25 rfl rfl ?_
    refine ks_addN dX16_part_26 rfl ?_
    refine ks_iload dX16_part_27 rfl rfl ?_
    refine ks_subN (by omega) dX16_part_29 rfl ?_
    refine ks_bipush (x := nI 32) dX16_part_30 (by decide) rfl ?_
    refine ks_icmp_leN (tgt := 37) (by omega) (by decide) dX16_part_32 (by decide) rfl (fun h4 => ?_) (fun h4 => ?_)
    · refine ks_iconst (x := nI 0) dX16_part_37 (by decide) rfl ?_
      refine ks_istore dX16_part_38 (by decide) rfl ?_
      refine ks_sub [(6, _), (0, _), (1, _), (2, _), (3, _), (4, _), (5, _)] rfl ?_
      refine ks_iload dX16_part_40 rfl rfl ?_
      refine ks_bipush (x := nI 8) dX16_part_42 (by decide) rfl ?_
      refine ks_icmp_geN (tgt := 59) (by decide) (by decide) dX16_part_44 (by decide) rfl (fun h => absurd h (by decide)) (fun _ => ?_)
      refine ks_aload dX16_part_47 rfl rfl ?_
      refine ks_iload dX16_part_49 rfl rfl ?_
      refine ks_iconst (x := nI 0) dX16_part_51 (by decide) rfl ?_
      refine ks_iastNN (i := 0) (v := 0) tB egt (by decide) (by decide) dX16_part_52 rfl ?_
      refine ks_incN (c := 1) (e := 1) dX16_part_53 rfl (by decide) rfl (by decide) rfl ?_
      refine ks_sub [(6, _), (0, _), (1, _), (2, _), (3, _), (4, _), (5, _)] rfl ?_
      refine ks_goto (tgt := 40) dX16_part_56 (by decide) ?_
      refine ks_iload dX16_part_40 rfl rfl ?_
      refine ks_bipush (x := nI 8) dX16_part_42 (by decide) rfl ?_
      refine ks_icmp_geN (tgt := 59) (by decide) (by decide) dX16_part_44 (by decide) rfl (fun h => absurd h (by decide)) (fun _ => ?_)
      refine ks_aload dX16_part_47 rfl rfl ?_
      refine ks_iload dX16_part_49 rfl rfl ?_
      refine ks_iconst (x := nI 0) dX16_part_51 (by decide) rfl ?_
      refine ks_iastNN (i := 1) (v := 0) tB (ks_set_same _ _ _) (by decide) (by decide) dX16_part_52 rfl ?_
      refine ks_incN (c := 1) (e := 2) dX16_part_53 rfl (by decide) rfl (by decide) rfl ?_
      refine ks_sub [(6, _), (0, _), (1, _), (2, _), (3, _), (4, _), (5, _)] rfl ?_
      refine ks_goto (tgt := 40) dX16_part_56 (by decide) ?_
      refine ks_iload dX16_part_40 rfl rfl ?_
      refine ks_bipush (x := nI 8) dX16_part_42 (by decide) rfl ?_
      refine ks_icmp_geN (tgt := 59) (by decide) (by decide) dX16_part_44 (by decide) rfl (fun h => absurd h (by decide)) (fun _ => ?_)
      refine ks_aload dX16_part_47 rfl rfl ?_
      refine ks_iload dX16_part_49 rfl rfl ?_
      refine ks_iconst (x := nI 0) dX16_part_51 (by decide) rfl ?_
      refine ks_iastNN (i := 2) (v := 0) tB (ks_set_same _ _ _) (by decide) (by decide) dX16_part_52 rfl ?_
      refine ks_incN (c := 1) (e := 3) dX16_part_53 rfl (by decide) rfl (by decide) rfl ?_
      refine ks_sub [(6, _), (0, _), (1, _), (2, _), (3, _), (4, _), (5, _)] rfl ?_
      refine ks_goto (tgt := 40) dX16_part_56 (by decide) ?_
      refine ks_iload dX16_part_40 rfl rfl ?_
      refine ks_bipush (x := nI 8) dX16_part_42 (by decide) rfl ?_
      refine ks_icmp_geN (tgt := 59) (by decide) (by decide) dX16_part_44 (by decide) rfl (fun h => absurd h (by decide)) (fun _ => ?_)
      refine ks_aload dX16_part_47 rfl rfl ?_
      refine ks_iload dX16_part_49 rfl rfl ?_
      refine ks_iconst (x := nI 0) dX16_part_51 (by decide) rfl ?_
      refine ks_iastNN (i := 3) (v := 0) tB (ks_set_same _ _ _) (by decide) (by decide) dX16_part_52 rfl ?_
      refine ks_incN (c := 1) (e := 4) dX16_part_53 rfl (by decide) rfl (by decide) rfl ?_
      refine ks_sub [(6, _), (0, _), (1, _), (2, _), (3, _), (4, _), (5, _)] rfl ?_
      refine ks_goto (tgt := 40) dX16_part_56 (by decide) ?_
      refine ks_iload dX16_part_40 rfl rfl ?_
      refine ks_bipush (x := nI 8) dX16_part_42 (by decide) rfl ?_
      refine ks_icmp_geN (tgt := 59) (by decide) (by decide) dX16_part_44 (by decide) rfl (fun h => absurd h (by decide)) (fun _ => ?_)
      refine ks_aload dX16_part_47 rfl rfl ?_
      refine ks_iload dX16_part_49 rfl rfl ?_
      refine ks_iconst (x := nI 0) dX16_part_51 (by decide) rfl ?_
      refine ks_iastNN (i := 4) (v := 0) tB (ks_set_same _ _ _) (by decide) (by decide) dX16_part_52 rfl ?_
      refine ks_incN (c := 1) (e := 5) dX16_part_53 rfl (by decide) rfl (by decide) rfl ?_
      refine ks_sub [(6, _), (0, _), (1, _), (2, _), (3, _), (4, _), (5, _)] rfl ?_
      refine ks_goto (tgt := 40) dX16_part_56 (by decide) ?_
      refine ks_iload dX16_part_40 rfl rfl ?_
      refine ks_bipush (x := nI 8) dX16_part_42 (by decide) rfl ?_
      refine ks_icmp_geN (tgt := 59) (by decide) (by decide) dX16_part_44 (by decide) rfl (fun h => absurd h (by decide)) (fun _ => ?_)
      refine ks_aload dX16_part_47 rfl rfl ?_
      refine ks_iload dX16_part_49 rfl rfl ?_
      refine ks_iconst (x := nI 0) dX16_part_51 (by decide) rfl ?_
      refine ks_iastNN (i := 5) (v := 0) tB (ks_set_same _ _ _) (by decide) (by decide) dX16_part_52 rfl ?_
      refine ks_incN (c := 1) (e := 6) dX16_part_53 rfl (by decide) rfl (by decide) rfl ?_
      refine ks_sub [(6, _), (0, _), (1, _), (2, _), (3, _), (4, _), (5, _)] rfl ?_
      refine ks_goto (tgt := 40) dX16_part_56 (by decide) ?_
      refine ks_iload dX16_part_40 rfl rfl ?_
      refine ks_bipush (x := nI 8) dX16_part_42 (by decide) rfl ?_
      refine ks_icmp_geN (tgt := 59) (by decide) (by decide) dX16_part_44 (by decide) rfl (fun h => absurd h (by decide)) (fun _ => ?_)
      refine ks_aload dX16_part_47 rfl rfl ?_
      refine ks_iload dX16_part_49 rfl rfl ?_
      refine ks_iconst (x := nI 0) dX16_part_51 (by decide) rfl ?_
      refine ks_iastNN (i := 6) (v := 0) tB (ks_set_same _ _ _) (by decide) (by decide) dX16_part_52 rfl ?_
      refine ks_incN (c := 1) (e := 7) dX16_part_53 rfl (by decide) rfl (by decide) rfl ?_
      refine ks_sub [(6, _), (0, _), (1, _), (2, _), (3, _), (4, _), (5, _)] rfl ?_
      refine ks_goto (tgt := 40) dX16_part_56 (by decide) ?_
      refine ks_iload dX16_part_40 rfl rfl ?_
      refine ks_bipush (x := nI 8) dX16_part_42 (by decide) rfl ?_
      refine ks_icmp_geN (tgt := 59) (by decide) (by decide) dX16_part_44 (by decide) rfl (fun h => absurd h (by decide)) (fun _ => ?_)
      refine ks_aload dX16_part_47 rfl rfl ?_
      refine ks_iload dX16_part_49 rfl rfl ?_
      refine ks_iconst (x := nI 0) dX16_part_51 (by decide) rfl ?_
      refine ks_iastNN (i := 7) (v := 0) tB (ks_set_same _ _ _) (by decide) (by decide) dX16_part_52 rfl ?_
      refine ks_incN (c := 1) (e := 8) dX16_part_53 rfl (by decide) rfl (by decide) rfl ?_
      refine ks_sub [(6, _), (0, _), (1, _), (2, _), (3, _), (4, _), (5, _)] rfl ?_
      refine ks_goto (tgt := 40) dX16_part_56 (by decide) ?_
      refine ks_iload dX16_part_40 rfl rfl ?_
      refine ks_bipush (x := nI 8) dX16_part_42 (by decide) rfl ?_
      refine ks_icmp_geN (tgt := 59) (by decide) (by decide) dX16_part_44 (by decide) rfl (fun _ => ?_) (fun h => absurd h (by decide))
      refine ks_iconst (x := nI 0) dX16_part_59 (by decide) rfl ?_
      refine ks_istore dX16_part_60 (by decide) rfl ?_
      refine ks_sub [(6, _), (0, _), (1, _), (2, _), (3, _), (4, _), (5, _)] rfl ?_
      refine ks_sub [(0, _), (1, _), (2, _), (3, _), (4, _), (5, _), (6, _)] rfl (l3 f hf1 hf2 (by omega) hfz (a + n - f) 0 _ _ (Nat.zero_add _) up8 (ks_set_same _ _ _) (fun j hj => by rw [z8 j hj]; decide) ((dg_congr (g := fun _ => 0) z8).trans (show dg 4294967296 (fun _ => 0) 8 = 0 by decide)))
    · refine ks_iconst (x := nI 0) dX16_part_35 (by decide) rfl ?_
      refine ks_zret rfl rfl dX16_part_36 ?_
      have hbig := beW_big (g := g) (i := a) (c := n) (j := f - a) (by omega) (by rw [show a + (f - a) = f by omega]; exact hfe.resolve_left (by omega))
      have en : inN (beW g a n) = false := decide_eq_false (fun h => hbig h.2)
      rw [en]
      exact ⟨rfl, ks_up.rf _ _, ⟨_, hT⟩, fun h => absurd h (by decide)⟩
  have l1 : ∀ (u f : Nat), f + u = a + n → a ≤ f → (∀ j, a ≤ j → j < f → g j = 0) → ks_X l G mX16_part (d + 1) 3 [(0, .ref 290), (1, .ref y), (2, .int (nI a)), (3, .int (nI n)), (4, .ref t), (5, .int (nI f))] [] S (fun z S' => z = some (.int (ks_bo (inN (beW g a n)))) ∧ ks_up S S' [t] ∧ (∃ T', wA S' t T') ∧ (inN (beW g a n) = true → wA S' t (beW g a n))) := by
    intro u
    induction u with
    | zero =>
      intro f hf h1 hz
      refine ks_iload dX16_part_3 rfl rfl ?_
      refine ks_iload_n dX16_part_5 rfl rfl ?_
      refine ks_iload_n dX16_part_6 rfl rfl ?_
      refine ks_addN dX16_part_7 rfl ?_
      refine ks_icmp_geN (tgt := 24) (by omega) (by omega) dX16_part_8 (by decide) rfl (fun h2 => ?_) (fun h2 => absurd h2 (by omega))
      exact ks_sub [(0, _), (1, _), (2, _), (3, _), (4, _), (5, _)] rfl (l2 f h1 (by omega) hz (Or.inl hf))
    | succ u ih =>
      intro f hf h1 hz
      refine ks_iload dX16_part_3 rfl rfl ?_
      refine ks_iload_n dX16_part_5 rfl rfl ?_
      refine ks_iload_n dX16_part_6 rfl rfl ?_
      refine ks_addN dX16_part_7 rfl ?_
      refine ks_icmp_geN (tgt := 24) (by omega) (by omega) dX16_part_8 (by decide) rfl (fun h2 => absurd h2 (by omega)) (fun h2 => ?_)
      refine ks_aload_n dX16_part_11 rfl rfl ?_
      refine ks_iload dX16_part_12 rfl rfl ?_
      refine ks_baldB (i := f) hy rfl (by omega) (by omega) dX16_part_14 rfl ?_
      refine ks_if_neY (tgt := 24) (kg _) dX16_part_15 (by decide) rfl (fun h3 => ?_) (fun h3 => ?_)
      · exact ks_sub [(0, _), (1, _), (2, _), (3, _), (4, _), (5, _)] rfl (l2 f h1 (by omega) hz (Or.inr h3))
      · refine ks_incN (c := 1) (e := f + 1) dX16_part_18 rfl (by decide) rfl (by decide) rfl ?_
        refine ks_sub [(5, _), (0, _), (1, _), (2, _), (3, _), (4, _)] rfl ?_
        refine ks_goto (tgt := 3) dX16_part_21 (by decide) ?_
        refine ks_sub [(0, _), (1, _), (2, _), (3, _), (4, _), (5, _)] rfl (ih (f + 1) (by omega) (by omega) (fun j hj1 hj2 => ?_))
        by_cases e : j = f
        · subst e; exact h3
        · exact hz j hj1 (by omega)
  refine ks_of (by decide) rfl rfl (Nat.le_of_ble_eq_true rfl) ?_
  show ks_X l G mX16_part (d + 1) 0 [(0, .ref 290), (1, .ref y), (2, .int (nI a)), (3, .int (nI n)), (4, .ref t)] [] S _
  refine ks_iload_n dX16_part_0 rfl rfl ?_
  refine ks_istore dX16_part_1 (by decide) rfl ?_
  refine ks_sub [(5, _), (0, _), (1, _), (2, _), (3, _), (4, _)] rfl ?_
  exact ks_sub [(0, _), (1, _), (2, _), (3, _), (4, _), (5, _)] rfl (l1 n a rfl (Nat.le_refl _) (fun j h1 h2 => absurd h1 (by omega)))
