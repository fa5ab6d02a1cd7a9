/-! THE REFERENCE: operations of a script, last -/
/-- only the length of the push at hand was written -/
def bhK (S S' : ks_S) (V V' : Nat → Value) : Prop := ks_up S S' [290] ∧ S'.2.2 290 = some (rfE V') ∧ ∀ k, k ≠ 63 → V' k = V k
theorem bhK.trans {S S1 S2 : ks_S} {V V1 V2 : Nat → Value} (h : bhK S S1 V V1) (k : bhK S1 S2 V1 V2) : bhK S S2 V V2 := ⟨h.1.trans k.1, k.2.1, fun j h1 => (k.2.2 j h1).trans (h.2.2 j h1)⟩
theorem bhK.rf {S : ks_S} {V : Nat → Value} (h : S.2.2 290 = some (rfE V)) : bhK S S V V := ⟨ks_up.rf _ _, h, fun _ _ => rfl⟩
theorem bhK.set {S S1 : ks_S} {V V1 : Nat → Value} {v : Value} (h : bhK S S1 V V1) : bhK S (ks_set S1 290 (rfE (va_up V1 63 v))) V (va_up V1 63 v) := ⟨h.1.trans (ks_up_set _ _ (List.mem_singleton.mpr rfl)), ks_set_same _ _ _, fun k hk => (va_up_ne _ _ hk).trans (h.2.2 k hk)⟩
theorem aftI_n {g : Nat → Nat} {i e : Nat} (h : afL (bytL g i (e - i)) = none) : aftI g i e = -1 := by unfold aftI; rw [h]
theorem aftI_s {g : Nat → Nat} {i e k : Nat} (h : afL (bytL g i (e - i)) = some k) : aftI g i e = nI (i + k) := by unfold aftI; rw [h]
set_option maxRecDepth 100000 in
set_option maxHeartbeats 800000 in
theorem c_md_behind {l : Launch} {G : ks_G} {d : Nat} {S : ks_S} {V : Nat → Value} {y N i e : Nat} {g : Nat → Nat} (hO : S.2.2 290 = some (rfE V)) (hy : S.2.2 y = some (kB N g)) (hg : kO g) (hN : N < 2 ^ 20) (he : e ≤ N) (hi : i < e) : ks_P l G yX16_behind mX16_behind (d + 1) [.ref 290, .ref y, .int (nI i), .int (nI e)] S (fun z S' => z = some (.int (aftI g i e)) ∧ ∃ V', bhK S S' V V' ∧ ∀ k, afL (bytL g i (e - i)) = some k → V' 63 = .int (nI (szO g i))) := by
  have yn : y ≠ 290 := ks_ne hy hO (fun h => by cases h)
  have hop : g i < 256 := hg i
  obtain ⟨op, eop⟩ : ∃ op, op = g i := ⟨_, rfl⟩
  have af := afL_at (g := g) hi
  have B1 : bhK S (ks_set S 290 (rfE (va_up V 63 (.int (nI 0))))) V (va_up V 63 (.int (nI 0))) := (bhK.rf hO).set
  have o1 := B1.2.1
  have y1 := B1.1.at hy (by simp only [List.mem_singleton]; exact yn)
  have v1 : va_up V 63 (.int (nI 0)) 63 = .int (nI 0) := va_up_self _ _ _
  obtain ⟨V1, eV1⟩ : ∃ V1, V1 = va_up V 63 (.int (nI 0)) := ⟨_, rfl⟩
  obtain ⟨S1, eS1⟩ : ∃ S1, S1 = ks_set S 290 (rfE (va_up V 63 (.int (nI 0)))) := ⟨_, rfl⟩
  rw [← eS1, ← eV1] at B1 o1
  rw [← eS1] at y1
  rw [← eV1] at v1
  have tail : ∀ n, n ≤ 4 → 0 < op → op ≤ 78 → (n = 0 ↔ op < 76) → hdS (g i) = n + 1 → ks_X l G mX16_behind (d + 1) 64 [(0, .ref 290), (1, .ref y), (2, .int (nI i)), (3, .int (nI e)), (4, .int (nI op))] [.int (nI n)] S1 (fun z S' => z = some (.int (aftI g i e)) ∧ ∃ V', bhK S S' V V' ∧ ∀ k, afL (bytL g i (e - i)) = some k → V' 63 = .int (nI (szO g i))) := by
    intro n n4 op0 op78 hn0 hh
    rw [hh] at af
    refine ks_istore dX16_behind_64 (by decide) rfl ?_
    refine ks_sub [(5, _), (0, _), (1, _), (2, _), (3, _), (4, _)] rfl ?_
    refine ks_iload dX16_behind_66 rfl rfl ?_
    refine ks_iload_n dX16_behind_68 rfl rfl ?_
    refine ks_iload_n dX16_behind_69 rfl rfl ?_
    refine ks_subN (by omega) dX16_behind_70 rfl ?_
    refine ks_iconst (x := nI 1) dX16_behind_71 (by decide) rfl ?_
    refine ks_subN (by omega) dX16_behind_72 rfl ?_
    refine ks_icmp_leN (tgt := 78) (by omega) (by omega) dX16_behind_73 (by decide) rfl (fun h1 => ?_) (fun h1 => ?_)
    · rw [if_neg (by omega)] at af
      have fin : ∀ s, s < 2 ^ 32 → szO g i = s → ks_X l G mX16_behind (d + 1) 99 [(0, .ref 290), (1, .ref y), (2, .int (nI i)), (3, .int (nI e)), (4, .int (nI op)), (5, .int (nI n))] [.long (lN s)] S1 (fun z S' => z = some (.int (aftI g i e)) ∧ ∃ V', bhK S S' V V' ∧ ∀ k, afL (bytL g i (e - i)) = some k → V' 63 = .int (nI (szO g i))) := by
        intro s s32 hs
        rw [hs] at af
        refine ks_lstore dX16_behind_99 (by decide) rfl ?_
        refine ks_sub [(6, _), (0, _), (1, _), (2, _), (3, _), (4, _), (5, _)] rfl ?_
        refine ks_lload dX16_behind_101 rfl rfl ?_
        refine ks_iload_n dX16_behind_103 rfl rfl ?_
        refine ks_iload_n dX16_behind_104 rfl rfl ?_
        refine ks_subN (by omega) dX16_behind_105 rfl ?_
        refine ks_iconst (x := nI 1) dX16_behind_106 (by decide) rfl ?_
        refine ks_subN (by omega) dX16_behind_107 rfl ?_
        refine ks_iload dX16_behind_108 rfl rfl ?_
        refine ks_subN (by omega) dX16_behind_110 rfl ?_
        refine ks_i2lN (by omega) dX16_behind_111 rfl ?_
        refine ks_lif_leN (tgt := 118) (by omega) (by omega) dX16_behind_112 rfl dX16_behind_113 (by decide) rfl (fun h2 => ?_) (fun h2 => ?_)
        · rw [if_neg (by omega)] at af
          refine ks_aload_n dX16_behind_118 rfl rfl ?_
          refine ks_lload dX16_behind_119 rfl rfl ?_
          refine ks_l2iN dX16_behind_121 rfl ?_
          refine ks_putf (T := TX16) (kf := 63) kx_2431 rfl in_X16 tyX16_ok nmX16 cl_X16 (by decide) o1 (Nat.le_of_ble_eq_true rfl) rfl rfl rfl rfl dX16_behind_122 rfl ?_
          refine md_put mdp_63 ?_
          refine ks_iload_n dX16_behind_125 rfl rfl ?_
          refine ks_iconst (x := nI 1) dX16_behind_126 (by decide) rfl ?_
          refine ks_addN dX16_behind_127 rfl ?_
          refine ks_iload dX16_behind_128 rfl rfl ?_
          refine ks_addN dX16_behind_130 rfl ?_
          refine ks_aload_n dX16_behind_131 rfl rfl ?_
          refine ks_getf (T := TX16) (kf := 63) kx_2431 rfl in_X16 cl_X16 (by decide) (ks_set_same _ _ _) rfl dX16_behind_132 rfl ?_
          refine ks_tv (va_up_self _ _ _) ?_
          refine ks_addN dX16_behind_135 rfl ?_
          refine ks_iret rfl dX16_behind_136 ?_
          rw [aftI_s af, show i + (n + 1 + s) = i + 1 + n + s by omega]
          exact ⟨rfl, _, B1.set, fun k hk => by rw [hs]; exact va_up_self _ _ _⟩
        · refine ks_iconst (x := (-1)) dX16_behind_116 (by decide) rfl ?_
          refine ks_iret rfl dX16_behind_117 ?_
          rw [if_pos (by omega)] at af
          rw [aftI_n af]
          exact ⟨rfl, V1, B1, fun k hk => by rw [af] at hk; cases hk⟩
      refine ks_iload dX16_behind_78 rfl rfl ?_
      refine ks_if_neN (tgt := 89) (by omega) dX16_behind_80 (by decide) rfl (fun h2 => ?_) (fun h2 => ?_)
      · refine ks_aload_n dX16_behind_89 rfl rfl ?_
        refine ks_aload_n dX16_behind_90 rfl rfl ?_
        refine ks_iload_n dX16_behind_91 rfl rfl ?_
        refine ks_iconst (x := nI 1) dX16_behind_92 (by decide) rfl ?_
        refine ks_addN dX16_behind_93 rfl ?_
        refine ks_iload dX16_behind_94 rfl rfl ?_
        refine ks_callV (n := 3) (M' := mX16_number) (c_md_number (d := d) y1 hg (i := i + 1) (n := n) (by omega) (by omega) (by omega)) o1 cl_X16 rfl kx_2020 kx_2022 kxp_68 kx_30 kx_2023 (by decide +kernel) rfl (by decide) (Nat.le_of_ble_eq_true rfl) rfl dX16_behind_96 rfl (fun z3 T3 y3 => ?_)
        obtain ⟨rfl, hT3⟩ := y3
        obtain rfl := hT3.symm
        have nb : ks_num g (i + 1) n < 2 ^ 32 := Nat.lt_of_lt_of_le (ks_num_lt hg n (i + 1)) (by rw [show (2 : Nat) ^ 32 = 256 ^ 4 from rfl]; exact Nat.pow_le_pow_right (by decide) n4)
        exact ks_sub [(0, _), (1, _), (2, _), (3, _), (4, _), (5, _)] rfl (fin _ nb (by unfold szO; rw [← eop, if_neg (fun h => h2 (hn0.mpr h)), eop, hh, Nat.add_sub_cancel]))
      · have o76 := hn0.mp h2
        refine ks_iload dX16_behind_83 rfl rfl ?_
        refine ks_i2lN (by omega) dX16_behind_85 rfl ?_
        refine ks_goto (tgt := 99) dX16_behind_86 (by decide) ?_
        exact ks_sub [(0, _), (1, _), (2, _), (3, _), (4, _), (5, _)] rfl (fin op (by omega) (by unfold szO; rw [← eop, if_pos o76]))
    · refine ks_iconst (x := (-1)) dX16_behind_76 (by decide) rfl ?_
      refine ks_iret rfl dX16_behind_77 ?_
      rw [if_pos (by omega)] at af
      rw [aftI_n af]
      exact ⟨rfl, V1, B1, fun k hk => by rw [af] at hk; cases hk⟩
  refine ks_of (by decide) rfl rfl (Nat.le_of_ble_eq_true rfl) ?_
  show ks_X l G mX16_behind (d + 1) 0 [(0, .ref 290), (1, .ref y), (2, .int (nI i)), (3, .int (nI e))] [] S _
  refine ks_aload_n dX16_behind_0 rfl rfl ?_
  refine ks_iload_n dX16_behind_1 rfl rfl ?_
  refine ks_baldB (i := i) hy rfl (by omega) (by omega) dX16_behind_2 rfl ?_
  refine ks_sipush (x := nI 255) dX16_behind_3 (by decide) rfl ?_
  refine ks_andB (hg _) dX16_behind_6 rfl ?_
  have hy6 : g i < 256 := (hg _)
  rw [← eop]
  refine ks_istore dX16_behind_7 (by decide) rfl ?_
  refine ks_sub [(4, _), (0, _), (1, _), (2, _), (3, _)] rfl ?_
  refine ks_aload_n dX16_behind_9 rfl rfl ?_
  refine ks_iconst (x := nI 0) dX16_behind_10 (by decide) rfl ?_
  refine ks_putf (T := TX16) (kf := 63) kx_2431 rfl in_X16 tyX16_ok nmX16 cl_X16 (by decide) hO (Nat.le_of_ble_eq_true rfl) rfl rfl rfl rfl dX16_behind_11 rfl ?_
  refine md_put mdp_63 ?_
  rw [← eS1]
  rw [← eop] at hop
  refine ks_iload dX16_behind_14 rfl rfl ?_
  refine ks_bipush (x := nI 78) dX16_behind_16 (by decide) rfl ?_
  refine ks_icmp_gtN (tgt := 26) (by omega) (by decide) dX16_behind_18 (by decide) rfl (fun h1 => ?_) (fun h1 => ?_)
  · refine ks_iload_n dX16_behind_26 rfl rfl ?_
    refine ks_iconst (x := nI 1) dX16_behind_27 (by decide) rfl ?_
    refine ks_addN dX16_behind_28 rfl ?_
    refine ks_iret rfl dX16_behind_29 ?_
    have h1s : hdS (g i) = 1 := by unfold hdS; rw [← eop, if_neg (by omega), if_neg (by omega), if_neg (by omega)]
    have s0 : szO g i = 0 := by
      unfold szO
      rw [h1s, ← eop]
      by_cases o76 : op < 76
      · rw [if_pos o76]; omega
      · rw [if_neg o76]; rfl
    rw [h1s, s0, if_neg (by omega), if_neg (by omega)] at af
    rw [aftI_s af]
    exact ⟨rfl, V1, B1, fun k hk => by rw [s0]; exact v1⟩
  · refine ks_iload dX16_behind_21 rfl rfl ?_
    refine ks_if_neN (tgt := 30) (by omega) dX16_behind_23 (by decide) rfl (fun h2 => ?_) (fun h2 => ?_)
    · refine ks_iload dX16_behind_30 rfl rfl ?_
      refine ks_bipush (x := nI 76) dX16_behind_32 (by decide) rfl ?_
      refine ks_icmp_geN (tgt := 41) (by omega) (by decide) dX16_behind_34 (by decide) rfl (fun h3 => ?_) (fun h3 => ?_)
      · refine ks_iload dX16_behind_41 rfl rfl ?_
        refine ks_bipush (x := nI 76) dX16_behind_43 (by decide) rfl ?_
        refine ks_icmp_neN (tgt := 52) (by omega) (by decide) dX16_behind_45 (by decide) rfl (fun h4 => ?_) (fun h4 => ?_)
        · refine ks_iload dX16_behind_52 rfl rfl ?_
          refine ks_bipush (x := nI 77) dX16_behind_54 (by decide) rfl ?_
          refine ks_icmp_neN (tgt := 63) (by omega) (by decide) dX16_behind_56 (by decide) rfl (fun h5 => ?_) (fun h5 => ?_)
          · refine ks_iconst (x := nI 4) dX16_behind_63 (by decide) rfl ?_
            exact ks_sub [(0, _), (1, _), (2, _), (3, _), (4, _)] rfl (tail 4 (by decide) (by omega) (by omega) (by omega) (by unfold hdS; rw [← eop]; rw [if_neg (by omega), if_neg (by omega), if_pos (by omega)]))
          · refine ks_iconst (x := nI 2) dX16_behind_59 (by decide) rfl ?_
            refine ks_goto (tgt := 64) dX16_behind_60 (by decide) ?_
            exact ks_sub [(0, _), (1, _), (2, _), (3, _), (4, _)] rfl (tail 2 (by decide) (by omega) (by omega) (by omega) (by unfold hdS; rw [← eop]; rw [if_neg (by omega), if_pos h5]))
        · refine ks_iconst (x := nI 1) dX16_behind_48 (by decide) rfl ?_
          refine ks_goto (tgt := 64) dX16_behind_49 (by decide) ?_
          exact ks_sub [(0, _), (1, _), (2, _), (3, _), (4, _)] rfl (tail 1 (by decide) (by omega) (by omega) (by omega) (by unfold hdS; rw [← eop]; rw [if_pos h4]))
      · refine ks_iconst (x := nI 0) dX16_behind_37 (by decide) rfl ?_
        refine ks_goto (tgt := 64) dX16_behind_38 (by decide) ?_
        exact ks_sub [(0, _), (1, _), (2, _), (3, _), (4, _)] rfl (tail 0 (by decide) (by omega) (by omega) (by omega) (by unfold hdS; rw [← eop]; rw [if_neg (by omega), if_neg (by omega), if_neg (by omega)]))
    · refine ks_iload_n dX16_behind_26 rfl rfl ?_
      refine ks_iconst (x := nI 1) dX16_behind_27 (by decide) rfl ?_
      refine ks_addN dX16_behind_28 rfl ?_
      refine ks_iret rfl dX16_behind_29 ?_
      have h1s : hdS (g i) = 1 := by unfold hdS; rw [← eop, if_neg (by omega), if_neg (by omega), if_neg (by omega)]
      have s0 : szO g i = 0 := by
        unfold szO
        rw [h1s, ← eop]
        by_cases o76 : op < 76
        · rw [if_pos o76]; omega
        · rw [if_neg o76]; rfl
      rw [h1s, s0, if_neg (by omega), if_neg (by omega)] at af
      rw [aftI_s af]
      exact ⟨rfl, V1, B1, fun k hk => by rw [s0]; exact v1⟩
set_option maxRecDepth 100000 in
set_option maxHeartbeats 800000 in
theorem c_md_asks {l : Launch} {G : ks_G} {d : Nat} {S : ks_S} {V : Nat → Value} {y N s n : Nat} {g : Nat → Nat} (hO : S.2.2 290 = some (rfE V)) (hy : S.2.2 y = some (kB N g)) (hg : kO g) (hN : N < 2 ^ 20) (he : s + n ≤ N) : ks_P l G yX16_asks mX16_asks (d + 2) [.ref 290, .ref y, .int (nI s), .int (nI n)] S (fun z S' => z = some (.int (nI (ask_ (bytL g s n)))) ∧ ∃ V', bhK S S' V V') := by
  have yn : y ∉ [290] := by simp only [List.mem_singleton]; exact ks_ne hy hO (fun h => by cases h)
  have loop : ∀ (f p x : Nat) (S1 : ks_S) (V1 : Nat → Value), s + n - p ≤ f → p ≤ s + n → x + 20 * f < 2 ^ 30 → bhK S S1 V V1 → ks_X l G mX16_asks (d + 2) 11 [(0, .ref 290), (1, .ref y), (2, .int (nI s)), (3, .int (nI n)), (4, .int (nI x)), (5, .int (nI p)), (6, .int (nI (s + n)))] [] S1 (fun z S' => z = some (.int (nI (x + askN f (bytL g p (s + n - p))))) ∧ ∃ V', bhK S S' V V') := by
    intro f
    induction f with
    | zero =>
      intro p x S1 V1 h1 h2 h3 K1
      refine ks_iload dX16_asks_11 rfl rfl ?_
      refine ks_iload dX16_asks_13 rfl rfl ?_
      refine ks_icmp_geN (tgt := 92) (by omega) (by omega) dX16_asks_15 (by decide) rfl (fun h4 => ?_) (fun h4 => absurd h4 (by omega))
      refine ks_iload dX16_asks_92 rfl rfl ?_
      refine ks_iret rfl dX16_asks_94 ?_
      exact ⟨rfl, V1, K1⟩
    | succ f ih =>
      intro p x S1 V1 h1 h2 h3 K1
      have o1 := K1.2.1
      have y1 := K1.1.at hy yn
      have hop : g p < 256 := hg p
      refine ks_iload dX16_asks_11 rfl rfl ?_
      refine ks_iload dX16_asks_13 rfl rfl ?_
      refine ks_icmp_geN (tgt := 92) (by omega) (by omega) dX16_asks_15 (by decide) rfl (fun h4 => ?_) (fun h4 => ?_)
      · refine ks_iload dX16_asks_92 rfl rfl ?_
        refine ks_iret rfl dX16_asks_94 ?_
        rw [askN, if_pos ((bytL_nil_iff g p _).mpr (by omega))]
        exact ⟨rfl, V1, K1⟩
      · rw [askN, if_neg (fun h => absurd ((bytL_nil_iff g p _).mp h) (by omega)), bytL_head g (by omega)]
        obtain ⟨op, eop⟩ : ∃ op, op = g p := ⟨_, rfl⟩
        rw [← eop] at hop ⊢
        have aw : askW op ≤ 20 := by unfold askW; split; split <;> omega; omega
        have mid : ∀ x2, x2 = x + askW op → ks_X l G mX16_asks (d + 2) 66 [(0, .ref 290), (1, .ref y), (2, .int (nI s)), (3, .int (nI n)), (4, .int (nI x2)), (5, .int (nI p)), (6, .int (nI (s + n)))] [] S1 (fun z S' => z = some (.int (nI (x + (askW op + (match afL (bytL g p (s + n - p)) with | none => 0 | some k => askN f ((bytL g p (s + n - p)).drop k)))))) ∧ ∃ V', bhK S S' V V') := by
          intro x2 ex
          refine ks_aload_n dX16_asks_66 rfl rfl ?_
          refine ks_aload_n dX16_asks_67 rfl rfl ?_
          refine ks_iload dX16_asks_68 rfl rfl ?_
          refine ks_iload dX16_asks_70 rfl rfl ?_
          refine ks_callV (n := 3) (M' := mX16_behind) (c_md_behind (d := d) o1 y1 hg hN he (i := p) (by omega)) o1 cl_X16 rfl kx_2154 kx_2156 kxp_85 kx_30 kx_2157 (by decide +kernel) rfl (by decide) (Nat.le_of_ble_eq_true rfl) rfl dX16_asks_72 rfl (fun z2 T2 y2 => ?_)
          obtain ⟨rfl, V2, K2, -⟩ := y2
          rcases aftI_cases g p (s + n) with ⟨an, ae⟩ | ⟨k, an, ae, k1, k2, -⟩
          · rw [ae]
            refine ks_istore dX16_asks_75 (by decide) rfl ?_
            refine ks_sub [(8, _), (0, _), (1, _), (2, _), (3, _), (4, _), (5, _), (6, _)] rfl ?_
            refine ks_iload dX16_asks_77 rfl rfl ?_
            refine ks_if_ge (tgt := 85) dX16_asks_79 (by decide) rfl (fun h5 => ?_) (fun h5 => ?_)
            · exact absurd h5 (by decide)
            · refine ks_iload dX16_asks_82 rfl rfl ?_
              refine ks_iret rfl dX16_asks_84 ?_
              rw [an, ex]
              exact ⟨rfl, V2, K1.trans K2⟩
          · rw [ae]
            refine ks_istore dX16_asks_75 (by decide) rfl ?_
            refine ks_sub [(8, _), (0, _), (1, _), (2, _), (3, _), (4, _), (5, _), (6, _)] rfl ?_
            refine ks_iload dX16_asks_77 rfl rfl ?_
            refine ks_if_geN (tgt := 85) (by omega) dX16_asks_79 (by decide) ?_
            refine ks_iload dX16_asks_85 rfl rfl ?_
            refine ks_istore dX16_asks_87 (by decide) rfl ?_
            refine ks_sub [(5, _), (0, _), (1, _), (2, _), (3, _), (4, _), (6, _), (8, _)] rfl ?_
            refine ks_goto (tgt := 11) dX16_asks_89 (by decide) ?_
            simp only [an]
            rw [bytL_drop g p k2, show s + n - p - k = s + n - (p + k) by omega]
            have h9 := ih (p + k) x2 T2 V2 (by omega) (by omega) (by omega) (K1.trans K2)
            rw [ex, Nat.add_assoc] at h9
            exact ks_sub [(0, _), (1, _), (2, _), (3, _), (4, _), (5, _), (6, _)] (by rw [ex]; rfl) h9
        refine ks_aload_n dX16_asks_18 rfl rfl ?_
        refine ks_iload dX16_asks_19 rfl rfl ?_
        refine ks_baldB (i := p) y1 rfl (by omega) (by omega) dX16_asks_21 rfl ?_
        refine ks_sipush (x := nI 255) dX16_asks_22 (by decide) rfl ?_
        refine ks_andB (hg _) dX16_asks_25 rfl ?_
        have hy25 : g p < 256 := (hg _)
        rw [← eop]
        refine ks_istore dX16_asks_26 (by decide) rfl ?_
        refine ks_sub [(7, _), (0, _), (1, _), (2, _), (3, _), (4, _), (5, _), (6, _)] rfl ?_
        refine ks_iload dX16_asks_28 rfl rfl ?_
        refine ks_sipush (x := nI 172) dX16_asks_30 (by decide) rfl ?_
        refine ks_icmp_eqN (tgt := 44) (by omega) (by decide) dX16_asks_33 (by decide) rfl (fun h5 => ?_) (fun h5 => ?_)
        · refine ks_incN (c := 1) (e := x + 1) dX16_asks_44 rfl (by decide) rfl (by decide) rfl ?_
          refine ks_sub [(4, _), (0, _), (1, _), (2, _), (3, _), (5, _), (6, _), (7, _)] rfl ?_
          refine ks_iload dX16_asks_47 rfl rfl ?_
          refine ks_sipush (x := nI 174) dX16_asks_49 (by decide) rfl ?_
          refine ks_icmp_eqN (tgt := 63) (by omega) (by decide) dX16_asks_52 (by decide) rfl (fun h6 => ?_) (fun h6 => ?_)
          · refine ks_incN (c := 20) (e := x + 1 + 20) dX16_asks_63 rfl (by decide) rfl (by decide) rfl ?_
            refine ks_sub [(4, _), (0, _), (1, _), (2, _), (3, _), (5, _), (6, _), (7, _)] rfl ?_
            exact ks_sub [(0, _), (1, _), (2, _), (3, _), (4, _), (5, _), (6, _)] rfl (mid (x + 1 + 20) (by unfold askW; omega))
          · refine ks_iload dX16_asks_55 rfl rfl ?_
            refine ks_sipush (x := nI 175) dX16_asks_57 (by decide) rfl ?_
            refine ks_icmp_neN (tgt := 66) (by omega) (by decide) dX16_asks_60 (by decide) rfl (fun h7 => ?_) (fun h7 => ?_)
            · exact ks_sub [(0, _), (1, _), (2, _), (3, _), (4, _), (5, _), (6, _)] rfl (mid (x + 1) (by unfold askW; rw [if_pos (by omega), if_pos (by omega)]))
            · refine ks_incN (c := 20) (e := x + 1 + 20) dX16_asks_63 rfl (by decide) rfl (by decide) rfl ?_
              refine ks_sub [(4, _), (0, _), (1, _), (2, _), (3, _), (5, _), (6, _), (7, _)] rfl ?_
              exact ks_sub [(0, _), (1, _), (2, _), (3, _), (4, _), (5, _), (6, _)] rfl (mid (x + 1 + 20) (by unfold askW; omega))
        · refine ks_iload dX16_asks_36 rfl rfl ?_
          refine ks_sipush (x := nI 173) dX16_asks_38 (by decide) rfl ?_
          refine ks_icmp_neN (tgt := 47) (by omega) (by decide) dX16_asks_41 (by decide) rfl (fun h5b => ?_) (fun h5b => ?_)
          · refine ks_iload dX16_asks_47 rfl rfl ?_
            refine ks_sipush (x := nI 174) dX16_asks_49 (by decide) rfl ?_
            refine ks_icmp_eqN (tgt := 63) (by omega) (by decide) dX16_asks_52 (by decide) rfl (fun h6 => ?_) (fun h6 => ?_)
            · refine ks_incN (c := 20) (e := x + 20) dX16_asks_63 rfl (by decide) rfl (by decide) rfl ?_
              refine ks_sub [(4, _), (0, _), (1, _), (2, _), (3, _), (5, _), (6, _), (7, _)] rfl ?_
              exact ks_sub [(0, _), (1, _), (2, _), (3, _), (4, _), (5, _), (6, _)] rfl (mid (x + 20) (by unfold askW; rw [if_pos (by omega), if_neg (by omega)]))
            · refine ks_iload dX16_asks_55 rfl rfl ?_
              refine ks_sipush (x := nI 175) dX16_asks_57 (by decide) rfl ?_
              refine ks_icmp_neN (tgt := 66) (by omega) (by decide) dX16_asks_60 (by decide) rfl (fun h7 => ?_) (fun h7 => ?_)
              · exact ks_sub [(0, _), (1, _), (2, _), (3, _), (4, _), (5, _), (6, _)] rfl (mid x (by unfold askW; rw [if_neg (by omega)]; omega))
              · refine ks_incN (c := 20) (e := x + 20) dX16_asks_63 rfl (by decide) rfl (by decide) rfl ?_
                refine ks_sub [(4, _), (0, _), (1, _), (2, _), (3, _), (5, _), (6, _), (7, _)] rfl ?_
                exact ks_sub [(0, _), (1, _), (2, _), (3, _), (4, _), (5, _), (6, _)] rfl (mid (x + 20) (by unfold askW; rw [if_pos (by omega), if_neg (by omega)]))
          · refine ks_incN (c := 1) (e := x + 1) dX16_asks_44 rfl (by decide) rfl (by decide) rfl ?_
            refine ks_sub [(4, _), (0, _), (1, _), (2, _), (3, _), (5, _), (6, _), (7, _)] rfl ?_
            refine ks_iload dX16_asks_47 rfl rfl ?_
            refine ks_sipush (x := nI 174) dX16_asks_49 (by decide) rfl ?_
            refine ks_icmp_eqN (tgt := 63) (by omega) (by decide) dX16_asks_52 (by decide) rfl (fun h6 => ?_) (fun h6 => ?_)
            · refine ks_incN (c := 20) (e := x + 1 + 20) dX16_asks_63 rfl (by decide) rfl (by decide) rfl ?_
              refine ks_sub [(4, _), (0, _), (1, _), (2, _), (3, _), (5, _), (6, _), (7, _)] rfl ?_
              exact ks_sub [(0, _), (1, _), (2, _), (3, _), (4, _), (5, _), (6, _)] rfl (mid (x + 1 + 20) (by unfold askW; omega))
            · refine ks_iload dX16_asks_55 rfl rfl ?_
              refine ks_sipush (x := nI 175) dX16_asks_57 (by decide) rfl ?_
              refine ks_icmp_neN (tgt := 66) (by omega) (by decide) dX16_asks_60 (by decide) rfl (fun h7 => ?_) (fun h7 => ?_)
              · exact ks_sub [(0, _), (1, _), (2, _), (3, _), (4, _), (5, _), (6, _)] rfl (mid (x + 1) (by unfold askW; rw [if_pos (by omega), if_pos (by omega)]))
              · refine ks_incN (c := 20) (e := x + 1 + 20) dX16_asks_63 rfl (by decide) rfl (by decide) rfl ?_
                refine ks_sub [(4, _), (0, _), (1, _), (2, _), (3, _), (5, _), (6, _), (7, _)] rfl ?_
                exact ks_sub [(0, _), (1, _), (2, _), (3, _), (4, _), (5, _), (6, _)] rfl (mid (x + 1 + 20) (by unfold askW; omega))
  refine ks_of (by decide) rfl rfl (Nat.le_of_ble_eq_true rfl) ?_
  show ks_X l G mX16_asks (d + 2) 0 [(0, .ref 290), (1, .ref y), (2, .int (nI s)), (3, .int (nI n))] [] S _
  refine ks_iconst (x := nI 0) dX16_asks_0 (by decide) rfl ?_
  refine ks_istore dX16_asks_1 (by decide) rfl ?_
  refine ks_sub [(4, _), (0, _), (1, _), (2, _), (3, _)] rfl ?_
  refine ks_iload_n dX16_asks_3 rfl rfl ?_
  refine ks_istore dX16_asks_4 (by decide) rfl ?_
  refine ks_sub [(5, _), (0, _), (1, _), (2, _), (3, _), (4, _)] rfl ?_
  refine ks_iload_n dX16_asks_6 rfl rfl ?_
  refine ks_iload_n dX16_asks_7 rfl rfl ?_
  refine ks_addN dX16_asks_8 rfl ?_
  refine ks_istore dX16_asks_9 (by decide) rfl ?_
  refine ks_sub [(6, _), (0, _), (1, _), (2, _), (3, _), (4, _), (5, _)] rfl ?_
  have h9 := loop n s 0 S V (by omega) (by omega) (by omega) (bhK.rf hO)
  rw [Nat.add_sub_cancel_left, Nat.zero_add] at h9
  unfold ask_
  rw [bytL_len]
  exact ks_sub [(0, _), (1, _), (2, _), (3, _), (4, _), (5, _), (6, _)] rfl h9
set_option maxRecDepth 100000 in
set_option maxHeartbeats 800000 in
theorem c_md_isPushes {l : Launch} {G : ks_G} {d : Nat} {S : ks_S} {V : Nat → Value} {y N s n : Nat} {g : Nat → Nat} (hO : S.2.2 290 = some (rfE V)) (hy : S.2.2 y = some (kB N g)) (hg : kO g) (hN : N < 2 ^ 20) (he : s + n ≤ N) : ks_P l G yX16_isPushes mX16_isPushes (d + 2) [.ref 290, .ref y, .int (nI s), .int (nI n)] S (fun z S' => z = some (.int (ks_bo (psh_ (bytL g s n)))) ∧ ∃ V', bhK S S' V V') := by
  have yn : y ∉ [290] := by simp only [List.mem_singleton]; exact ks_ne hy hO (fun h => by cases h)
  have loop : ∀ (f p : Nat) (S1 : ks_S) (V1 : Nat → Value), s + n - p ≤ f → p ≤ s + n → bhK S S1 V V1 → ks_X l G mX16_isPushes (d + 2) 3 [(0, .ref 290), (1, .ref y), (2, .int (nI s)), (3, .int (nI n)), (4, .int (nI p))] [] S1 (fun z S' => z = some (.int (ks_bo (pshN f (bytL g p (s + n - p))))) ∧ ∃ V', bhK S S' V V') := by
    intro f
    induction f with
    | zero =>
      intro p S1 V1 h1 h2 K1
      refine ks_iload dX16_isPushes_3 rfl rfl ?_
      refine ks_iload_n dX16_isPushes_5 rfl rfl ?_
      refine ks_iload_n dX16_isPushes_6 rfl rfl ?_
      refine ks_addN dX16_isPushes_7 rfl ?_
      refine ks_icmp_geN (tgt := 45) (by omega) (by omega) dX16_isPushes_8 (by decide) rfl (fun h4 => ?_) (fun h4 => absurd h4 (by omega))
      refine ks_iconst (x := nI 1) dX16_isPushes_45 (by decide) rfl ?_
      refine ks_zret rfl rfl dX16_isPushes_46 ?_
      exact ⟨rfl, V1, K1⟩
    | succ f ih =>
      intro p S1 V1 h1 h2 K1
      have o1 := K1.2.1
      have y1 := K1.1.at hy yn
      have hop : g p < 256 := hg p
      refine ks_iload dX16_isPushes_3 rfl rfl ?_
      refine ks_iload_n dX16_isPushes_5 rfl rfl ?_
      refine ks_iload_n dX16_isPushes_6 rfl rfl ?_
      refine ks_addN dX16_isPushes_7 rfl ?_
      refine ks_icmp_geN (tgt := 45) (by omega) (by omega) dX16_isPushes_8 (by decide) rfl (fun h4 => ?_) (fun h4 => ?_)
      · refine ks_iconst (x := nI 1) dX16_isPushes_45 (by decide) rfl ?_
        refine ks_zret rfl rfl dX16_isPushes_46 ?_
        rw [pshN, if_pos ((bytL_nil_iff g p _).mpr (by omega))]
        exact ⟨rfl, V1, K1⟩
      · rw [pshN, if_neg (fun h => absurd ((bytL_nil_iff g p _).mp h) (by omega)), bytL_head g (by omega)]
        refine ks_aload_n dX16_isPushes_11 rfl rfl ?_
        refine ks_iload dX16_isPushes_12 rfl rfl ?_
        refine ks_baldB (i := p) y1 rfl (by omega) (by omega) dX16_isPushes_14 rfl ?_
        refine ks_sipush (x := nI 255) dX16_isPushes_15 (by decide) rfl ?_
        refine ks_andB (hg _) dX16_isPushes_18 rfl ?_
        have hy18 : g p < 256 := (hg _)
        refine ks_bipush (x := nI 96) dX16_isPushes_19 (by decide) rfl ?_
        refine ks_icmp_leN (tgt := 26) (by omega) (by decide) dX16_isPushes_21 (by decide) rfl (fun h5 => ?_) (fun h5 => ?_)
        · rw [if_neg (by omega)]
          refine ks_aload_n dX16_isPushes_26 rfl rfl ?_
          refine ks_aload_n dX16_isPushes_27 rfl rfl ?_
          refine ks_iload dX16_isPushes_28 rfl rfl ?_
          refine ks_iload_n dX16_isPushes_30 rfl rfl ?_
          refine ks_iload_n dX16_isPushes_31 rfl rfl ?_
          refine ks_addN dX16_isPushes_32 rfl ?_
          refine ks_callV (n := 3) (M' := mX16_behind) (c_md_behind (d := d) o1 y1 hg hN he (i := p) (by omega)) o1 cl_X16 rfl kx_2154 kx_2156 kxp_85 kx_30 kx_2157 (by decide +kernel) rfl (by decide) (Nat.le_of_ble_eq_true rfl) rfl dX16_isPushes_33 rfl (fun z2 T2 y2 => ?_)
          obtain ⟨rfl, V2, K2, -⟩ := y2
          rcases aftI_cases g p (s + n) with ⟨an, ae⟩ | ⟨k, an, ae, k1, k2, -⟩
          · rw [ae]
            refine ks_istore dX16_isPushes_36 (by decide) rfl ?_
            refine ks_sub [(4, _), (0, _), (1, _), (2, _), (3, _)] rfl ?_
            refine ks_iload dX16_isPushes_38 rfl rfl ?_
            refine ks_if_ge (tgt := 3) dX16_isPushes_40 (by decide) rfl (fun h6 => ?_) (fun h6 => ?_)
            · exact absurd h6 (by decide)
            · refine ks_iconst (x := nI 0) dX16_isPushes_43 (by decide) rfl ?_
              refine ks_zret rfl rfl dX16_isPushes_44 ?_
              rw [an]
              exact ⟨rfl, V2, K1.trans K2⟩
          · rw [ae]
            refine ks_istore dX16_isPushes_36 (by decide) rfl ?_
            refine ks_sub [(4, _), (0, _), (1, _), (2, _), (3, _)] rfl ?_
            refine ks_iload dX16_isPushes_38 rfl rfl ?_
            refine ks_if_geN (tgt := 3) (by omega) dX16_isPushes_40 (by decide) ?_
            simp only [an]
            rw [bytL_drop g p k2, show s + n - p - k = s + n - (p + k) by omega]
            exact ks_sub [(0, _), (1, _), (2, _), (3, _), (4, _)] rfl (ih (p + k) T2 V2 (by omega) (by omega) (K1.trans K2))
        · refine ks_iconst (x := nI 0) dX16_isPushes_24 (by decide) rfl ?_
          refine ks_zret rfl rfl dX16_isPushes_25 ?_
          rw [if_pos (by omega)]
          exact ⟨rfl, V1, K1⟩
  refine ks_of (by decide) rfl rfl (Nat.le_of_ble_eq_true rfl) ?_
  show ks_X l G mX16_isPushes (d + 2) 0 [(0, .ref 290), (1, .ref y), (2, .int (nI s)), (3, .int (nI n))] [] S _
  refine ks_iload_n dX16_isPushes_0 rfl rfl ?_
  refine ks_istore dX16_isPushes_1 (by decide) rfl ?_
  refine ks_sub [(4, _), (0, _), (1, _), (2, _), (3, _)] rfl ?_
  have h9 := loop n s S V (by omega) (by omega) (bhK.rf hO)
  rw [Nat.add_sub_cancel_left] at h9
  unfold psh_
  rw [bytL_len]
  exact ks_sub [(0, _), (1, _), (2, _), (3, _), (4, _)] rfl h9
set_option maxRecDepth 100000 in
set_option maxHeartbeats 800000 in
theorem c_pd_isLast {l : Launch} {G : ks_G} {d : Nat} {S : ks_S} {V : Nat → Value} {P y N : Nat} {M : List Nat} (hO : S.2.2 290 = some (rfE V)) (hK : pdK S P y N M) {t k p m u e h tm : Nat} (ht : t < mg M 80) (etx : txP M t = (k, p, m, u, e)) (hh : h < 2 ^ 31) (htm : tm < 2 ^ 32) : ks_P l G yX16_isLast mX16_isLast (d + 3) [.ref 290, .ref P, .int (nI t), .int (nI h), .long (lN tm)] S (fun z S' => z = some (.int (ks_bo (last_b (mg M) M.length k p e h tm))) ∧ ∃ V', skK S S' V V') := by
  have b9 := blk_b hK.bl
  obtain ⟨b1, b2, b3, b4, b5, b6⟩ := bk_tx hK.bl ht
  rw [etx] at b3 b4
  have b4 : e = bsP M (t + 1) := b4
  have bd := tx_bd b3
  have hTi := tx_in b3
  have lk : ks_num (mg M) (e - 4) 4 < 2 ^ 32 := ks_num_lt hK.kO 4 _
  obtain ⟨lo, elo⟩ : ∃ lo, lo = ks_num (mg M) (e - 4) 4 := ⟨_, rfl⟩
  rw [← elo] at lk
  obtain ⟨g, A, gi, ⟨ey, kg⟩, ⟨hMN, hN16, hPB, hP6, hy6⟩, hg, hbl, X, hA⟩ := id hK
  have r1 : S.2.2 (P + 2) = some (kN 12 (A 1)) := X.2.1 1 (by decide)
  have r2 : S.2.2 (P + 3) = some (kN 12 (A 2)) := X.2.1 2 (by decide)
  have aA := hA t ht
  have a1 : A 1 t = e := aA.1.2.trans b4.symm
  have a2 : A 2 t = k := by rw [aA.2.1.1, etx]
  have yes : (lo = 0 ∨ lo < (if lo < 500000000 then h else tm)) → last_b (mg M) M.length k p e h tm = true := fun hc => by
    unfold last_b
    rw [← elo]
    exact decide_eq_true (by rcases hc with hc | hc; exact Or.inl hc; exact Or.inr (Or.inl hc))
  have loop : ¬ (lo = 0 ∨ lo < (if lo < 500000000 then h else tm)) → ∀ (v i : Nat) (S1 : ks_S) (V1 : Nat → Value), i + v = k → skK S S1 V V1 → (∀ j, j < i → seq_ (mg M) M.length p j = 4294967295) → ks_X l G mX16_isLast (d + 3) 53 [(0, .ref 290), (1, .ref P), (2, .int (nI t)), (8, .int (nI i))] [] S1 (fun z S' => z = some (.int (ks_bo (last_b (mg M) M.length k p e h tm))) ∧ ∃ V', skK S S' V V') := by
    intro hno v
    induction v with
    | zero =>
      intro i S1 V1 hi K1 hs
      have Q1 := K1.pd hK
      have o1 := K1.2.1
      obtain ⟨g1, A1, gi1, ⟨ey1, kg1⟩, ⟨hMN1, hN161, hPB1, hP61, hy61⟩, hg1, hbl1, X1, hA1⟩ := id Q1
      have r21 : S1.2.2 (P + 3) = some (kN 12 (A1 2)) := X1.2.1 2 (by decide)
      have a21 : A1 2 t = k := by rw [(hA1 t ht).2.1.1, etx]
      refine ks_iload dX16_isLast_53 rfl rfl ?_
      refine ks_aload_n dX16_isLast_55 rfl rfl ?_
      refine ks_getN (T := TX13) (kf := 4) kx_1820 rfl in_X13 cl_X13 (by decide) X1.1 rfl dX16_isLast_56 rfl ?_
      refine ks_iload_n dX16_isLast_59 rfl rfl ?_
      refine ks_ialdN (i := t) r21 rfl (by omega) (by decide) dX16_isLast_60 rfl ?_
      rw [a21]
      refine ks_icmp_geN (tgt := 111) (by omega) (by omega) dX16_isLast_61 (by decide) rfl (fun h1 => ?_) (fun h1 => absurd h1 (by omega))
      refine ks_iconst (x := nI 1) dX16_isLast_111 (by decide) rfl ?_
      refine ks_zret rfl rfl dX16_isLast_112 ?_
      obtain rfl : i = k := hi
      have e9 : last_b (mg M) M.length i p e h tm = true := decide_eq_true (Or.inr (Or.inr hs))
      rw [e9]
      exact ⟨rfl, V1, K1⟩
    | succ v ih =>
      intro i S1 V1 hi K1 hs
      have Q1 := K1.pd hK
      have o1 := K1.2.1
      obtain ⟨g1, A1, gi1, ⟨ey1, kg1⟩, ⟨hMN1, hN161, hPB1, hP61, hy61⟩, hg1, hbl1, X1, hA1⟩ := id Q1
      have r21 : S1.2.2 (P + 3) = some (kN 12 (A1 2)) := X1.2.1 2 (by decide)
      have a21 : A1 2 t = k := by rw [(hA1 t ht).2.1.1, etx]
      refine ks_iload dX16_isLast_53 rfl rfl ?_
      refine ks_aload_n dX16_isLast_55 rfl rfl ?_
      refine ks_getN (T := TX13) (kf := 4) kx_1820 rfl in_X13 cl_X13 (by decide) X1.1 rfl dX16_isLast_56 rfl ?_
      refine ks_iload_n dX16_isLast_59 rfl rfl ?_
      refine ks_ialdN (i := t) r21 rfl (by omega) (by decide) dX16_isLast_60 rfl ?_
      rw [a21]
      refine ks_icmp_geN (tgt := 111) (by omega) (by omega) dX16_isLast_61 (by decide) rfl (fun h1 => absurd h1 (by omega)) (fun h1 => ?_)
      have hik : i < (txP M t).1 := by rw [etx]; show i < k; omega
      have zb := hTi i (by omega)
      refine ks_aload_n dX16_isLast_64 rfl rfl ?_
      refine ks_aload_n dX16_isLast_65 rfl rfl ?_
      refine ks_getN (T := TX13) (kf := 0) kx_1813 rfl in_X13 cl_X13 (by decide) X1.1 rfl dX16_isLast_66 rfl ?_
      refine ks_aload_n dX16_isLast_69 rfl rfl ?_
      refine ks_aload_n dX16_isLast_70 rfl rfl ?_
      refine ks_iload_n dX16_isLast_71 rfl rfl ?_
      refine ks_iload dX16_isLast_72 rfl rfl ?_
      refine ks_callV (n := 3) (M' := mX16_input) (c_pd_input (d := d) o1 Q1 ht hik) o1 cl_X16 rfl kx_2122 kx_2124 kxp_78 kx_30 kx_2125 (by decide +kernel) rfl (by decide) (Nat.le_of_ble_eq_true rfl) rfl dX16_isLast_74 rfl (fun z2 T2 y2 => ?_)
      obtain ⟨rfl, V2, K2⟩ := y2
      have KK2 := K1.trans K2
      have Q2 := KK2.pd hK
      have o2 := K2.2.1
      obtain ⟨g2, A2, gi2, ⟨ey2, kg2⟩, ⟨hMN2, hN162, hPB2, hP62, hy62⟩, hg2, hbl2, X2, hA2⟩ := id Q2
      refine ks_bipush (x := nI 36) dX16_isLast_77 (by decide) rfl ?_
      refine ks_addN dX16_isLast_79 rfl ?_
      refine ks_callV (n := 2) (M' := mX16_script) (c_pd_scrI (d := d + 1) o2 Q2 ht hik) o2 cl_X16 rfl kx_2126 kx_2128 kxp_79 kx_30 kx_2129 (by decide +kernel) rfl (by decide) (Nat.le_of_ble_eq_true rfl) rfl dX16_isLast_80 rfl (fun z3 T3 y3 => ?_)
      obtain ⟨rfl, V3, K3, -, -⟩ := y3
      have KK3 := KK2.trans K3
      have Q3 := KK3.pd hK
      have o3 := K3.2.1
      rw [etx]
      have sq : ks_num (mg M) (iS (mg M) M.length p i + iZ (mg M) M.length p i) 4 < 2 ^ 32 := ks_num_lt hK.kO 4 _
      obtain ⟨g3, A3, gi3, ⟨ey3, kg3⟩, ⟨hMN3, hN163, hPB3, hP63, hy63⟩, hg3, hbl3, X3, hA3⟩ := id Q3
      refine ks_istore dX16_isLast_83 (by decide) rfl ?_
      refine ks_sub [(9, _), (0, _), (1, _), (2, _), (8, _)] rfl ?_
      refine ks_aload_n dX16_isLast_85 rfl rfl ?_
      refine ks_aload_n dX16_isLast_86 rfl rfl ?_
      refine ks_getN (T := TX13) (kf := 0) kx_1813 rfl in_X13 cl_X13 (by decide) X3.1 rfl dX16_isLast_87 rfl ?_
      refine ks_iload dX16_isLast_90 rfl rfl ?_
      refine ks_iconst (x := nI 4) dX16_isLast_92 (by decide) rfl ?_
      refine ks_callV (n := 3) (M' := mX16_number) (c_pd_num (d := d + 2) Q3 (i := iS (mg M) M.length p i + iZ (mg M) M.length p i) (k := 4) (by omega) (by decide)) o3 cl_X16 rfl kx_2020 kx_2022 kxp_68 kx_30 kx_2023 (by decide +kernel) rfl (by decide) (Nat.le_of_ble_eq_true rfl) rfl dX16_isLast_93 rfl (fun z4 T4 y4 => ?_)
      obtain ⟨rfl, hT4⟩ := y4
      obtain rfl := hT4.symm
      have eq9 : seq_ (mg M) M.length p i = ks_num (mg M) (iS (mg M) M.length p i + iZ (mg M) M.length p i) 4 := rfl
      rw [← eq9] at sq ⊢
      refine ks_ldc2 dX16_isLast_96 kx_1953 rfl ?_
      refine ks_tl (y := lN 4294967295) rfl ?_
      refine ks_lif_eqN (tgt := 105) (by omega) (by decide) dX16_isLast_99 rfl dX16_isLast_100 (by decide) rfl (fun h2 => ?_) (fun h2 => ?_)
      · refine ks_incN (c := 1) (e := i + 1) dX16_isLast_105 rfl (by decide) rfl (by decide) rfl ?_
        refine ks_sub [(8, _), (0, _), (1, _), (2, _), (9, _)] rfl ?_
        refine ks_goto (tgt := 53) dX16_isLast_108 (by decide) ?_
        refine ks_sub [(0, _), (1, _), (2, _), (8, _)] rfl (ih (i + 1) T3 V3 (by omega) KK3 (fun j hj => ?_))
        by_cases ej : j = i
        · subst ej; omega
        · exact hs j (by omega)
      · refine ks_iconst (x := nI 0) dX16_isLast_103 (by decide) rfl ?_
        refine ks_zret rfl rfl dX16_isLast_104 ?_
        have e9 : last_b (mg M) M.length k p e h tm = false := decide_eq_false (by rw [← elo]; rintro (h9 | h9 | h9); exact hno (Or.inl h9); exact hno (Or.inr h9); (have := h9 i (by omega); omega))
        rw [e9]
        exact ⟨rfl, V3, KK3⟩
  refine ks_of (by decide) rfl rfl (Nat.le_of_ble_eq_true rfl) ?_
  show ks_X l G mX16_isLast (d + 3) 0 [(0, .ref 290), (1, .ref P), (2, .int (nI t)), (3, .int (nI h)), (4, .long (lN tm))] [] S _
  refine ks_aload_n dX16_isLast_0 rfl rfl ?_
  refine ks_aload_n dX16_isLast_1 rfl rfl ?_
  refine ks_getN (T := TX13) (kf := 0) kx_1813 rfl in_X13 cl_X13 (by decide) X.1 rfl dX16_isLast_2 rfl ?_
  refine ks_aload_n dX16_isLast_5 rfl rfl ?_
  refine ks_getN (T := TX13) (kf := 3) kx_1818 rfl in_X13 cl_X13 (by decide) X.1 rfl dX16_isLast_6 rfl ?_
  refine ks_iload_n dX16_isLast_9 rfl rfl ?_
  refine ks_ialdN (i := t) r1 rfl (by omega) (by decide) dX16_isLast_10 rfl ?_
  rw [a1]
  refine ks_iconst (x := nI 4) dX16_isLast_11 (by decide) rfl ?_
  refine ks_subN (by omega) dX16_isLast_12 rfl ?_
  refine ks_iconst (x := nI 4) dX16_isLast_13 (by decide) rfl ?_
  refine ks_callV (n := 3) (M' := mX16_number) (c_pd_num (d := d + 2) hK (i := e - 4) (k := 4) (by omega) (by decide)) hO cl_X16 rfl kx_2020 kx_2022 kxp_68 kx_30 kx_2023 (by decide +kernel) rfl (by decide) (Nat.le_of_ble_eq_true rfl) rfl dX16_isLast_14 rfl (fun z4 T4 y4 => ?_)
  obtain ⟨rfl, hT4⟩ := y4
  obtain rfl := hT4.symm
  rw [← elo]
  refine ks_lstore dX16_isLast_17 (by decide) rfl ?_
  refine ks_sub [(6, _), (0, _), (1, _), (2, _), (3, _), (4, _)] rfl ?_
  refine ks_lload dX16_isLast_19 rfl rfl ?_
  refine ks_lconst (x := lN 0) dX16_isLast_21 (by decide) rfl ?_
  refine ks_lif_eqN (tgt := 48) (by omega) (by decide) dX16_isLast_22 rfl dX16_isLast_23 (by decide) rfl (fun h1 => ?_) (fun h1 => ?_)
  · refine ks_iconst (x := nI 1) dX16_isLast_48 (by decide) rfl ?_
    refine ks_zret rfl rfl dX16_isLast_49 ?_
    rw [yes (Or.inl (by omega))]
    exact ⟨rfl, V, skK.rf hO⟩
  · refine ks_lload dX16_isLast_26 rfl rfl ?_
    refine ks_lload dX16_isLast_28 rfl rfl ?_
    refine ks_ldc2 dX16_isLast_30 kx_2339 rfl ?_
    refine ks_tl (y := lN 500000000) rfl ?_
    refine ks_lif_geN (tgt := 42) (by omega) (by decide) dX16_isLast_33 rfl dX16_isLast_34 (by decide) rfl (fun h2 => ?_) (fun h2 => ?_)
    · refine ks_lload dX16_isLast_42 rfl rfl ?_
      refine ks_lif_geN (tgt := 50) (by omega) (by omega) dX16_isLast_44 rfl dX16_isLast_45 (by decide) rfl (fun h3 => ?_) (fun h3 => ?_)
      · refine ks_iconst (x := nI 0) dX16_isLast_50 (by decide) rfl ?_
        refine ks_istore dX16_isLast_51 (by decide) rfl ?_
        refine ks_sub [(8, _), (0, _), (1, _), (2, _), (3, _), (4, _), (6, _)] rfl ?_
        exact ks_sub [(0, _), (1, _), (2, _), (8, _)] rfl (loop (by rw [if_neg (by omega)]; omega) k 0 S V (by omega) (skK.rf hO) (fun j h => absurd h (Nat.not_lt_zero _)))
      · refine ks_iconst (x := nI 1) dX16_isLast_48 (by decide) rfl ?_
        refine ks_zret rfl rfl dX16_isLast_49 ?_
        rw [yes (Or.inr (by rw [if_neg (by omega)]; omega))]
        exact ⟨rfl, V, skK.rf hO⟩
    · refine ks_iload_n dX16_isLast_37 rfl rfl ?_
      refine ks_i2lN (by omega) dX16_isLast_38 rfl ?_
      refine ks_goto (tgt := 44) dX16_isLast_39 (by decide) ?_
      refine ks_lif_geN (tgt := 50) (by omega) (by omega) dX16_isLast_44 rfl dX16_isLast_45 (by decide) rfl (fun h3 => ?_) (fun h3 => ?_)
      · refine ks_iconst (x := nI 0) dX16_isLast_50 (by decide) rfl ?_
        refine ks_istore dX16_isLast_51 (by decide) rfl ?_
        refine ks_sub [(8, _), (0, _), (1, _), (2, _), (3, _), (4, _), (6, _)] rfl ?_
        exact ks_sub [(0, _), (1, _), (2, _), (8, _)] rfl (loop (by rw [if_pos (by omega)]; omega) k 0 S V (by omega) (skK.rf hO) (fun j h => absurd h (Nat.not_lt_zero _)))
      · refine ks_iconst (x := nI 1) dX16_isLast_48 (by decide) rfl ?_
        refine ks_zret rfl rfl dX16_isLast_49 ?_
        rw [yes (Or.inr (by rw [if_pos (by omega)]; omega))]
        exact ⟨rfl, V, skK.rf hO⟩
