/-! THE REFERENCE: signatures as bytes -/
set_option maxRecDepth 100000 in
set_option maxHeartbeats 800000 in
theorem c_md_shortest {l : Launch} {G : ks_G} {d : Nat} {S : ks_S} {y N a n : Nat} {g : Nat → Nat} (hy : S.2.2 y = some (kB N g)) (kg : kO g) (hn : 1 ≤ n) (han : a + n ≤ N) (hN : N < 2 ^ 28) : ks_P l G yX16_shortest mX16_shortest d [.ref y, .int (nI a), .int (nI n)] S (fun z S' => z = some (.int (ks_bo (decide (g a < 128 ∧ (n = 1 ∨ ¬ g a = 0 ∨ 128 ≤ g (a + 1)))))) ∧ S' = S) := by
  refine ks_of (by decide) rfl rfl (Nat.le_of_ble_eq_true rfl) ?_
  show ks_X l G mX16_shortest d 0 [(0, .ref y), (1, .int (nI a)), (2, .int (nI n))] [] S _
  refine ks_aload_n dX16_shortest_0 rfl rfl ?_
  refine ks_iload_n dX16_shortest_1 rfl rfl ?_
  refine ks_baldB (i := a) hy rfl (by omega) (by omega) dX16_shortest_2 rfl ?_
  refine ks_if_ltY (tgt := 29) (kg _) dX16_shortest_3 (by decide) rfl (fun hb1 => ?_) (fun hb1 => ?_)
  · refine ks_iconst (x := nI 0) dX16_shortest_29 (by decide) rfl ?_
    refine ks_zret rfl rfl dX16_shortest_30 ?_
    rw [decide_eq_false (by omega)]
    exact ⟨rfl, rfl⟩
  · refine ks_iload_n dX16_shortest_6 rfl rfl ?_
    refine ks_iconst (x := nI 1) dX16_shortest_7 (by decide) rfl ?_
    refine ks_icmp_eqN (tgt := 25) (by omega) (by decide) dX16_shortest_8 (by decide) rfl (fun hb2 => ?_) (fun hb2 => ?_)
    · refine ks_iconst (x := nI 1) dX16_shortest_25 (by decide) rfl ?_
      refine ks_goto (tgt := 30) dX16_shortest_26 (by decide) ?_
      refine ks_zret rfl rfl dX16_shortest_30 ?_
      rw [decide_eq_true (by omega)]
      exact ⟨rfl, rfl⟩
    · refine ks_aload_n dX16_shortest_11 rfl rfl ?_
      refine ks_iload_n dX16_shortest_12 rfl rfl ?_
      refine ks_baldB (i := a) hy rfl (by omega) (by omega) dX16_shortest_13 rfl ?_
      refine ks_if_neY (tgt := 25) (kg _) dX16_shortest_14 (by decide) rfl (fun hb3 => ?_) (fun hb3 => ?_)
      · refine ks_iconst (x := nI 1) dX16_shortest_25 (by decide) rfl ?_
        refine ks_goto (tgt := 30) dX16_shortest_26 (by decide) ?_
        refine ks_zret rfl rfl dX16_shortest_30 ?_
        rw [decide_eq_true (by omega)]
        exact ⟨rfl, rfl⟩
      · refine ks_aload_n dX16_shortest_17 rfl rfl ?_
        refine ks_iload_n dX16_shortest_18 rfl rfl ?_
        refine ks_iconst (x := nI 1) dX16_shortest_19 (by decide) rfl ?_
        refine ks_addN dX16_shortest_20 rfl ?_
        refine ks_baldB (i := a + 1) hy rfl (by omega) (by omega) dX16_shortest_21 rfl ?_
        refine ks_if_geY (tgt := 29) (kg _) dX16_shortest_22 (by decide) rfl (fun hb4 => ?_) (fun hb4 => ?_)
        · refine ks_iconst (x := nI 0) dX16_shortest_29 (by decide) rfl ?_
          refine ks_zret rfl rfl dX16_shortest_30 ?_
          rw [decide_eq_false (by omega)]
          exact ⟨rfl, rfl⟩
        · refine ks_iconst (x := nI 1) dX16_shortest_25 (by decide) rfl ?_
          refine ks_goto (tgt := 30) dX16_shortest_26 (by decide) ?_
          refine ks_zret rfl rfl dX16_shortest_30 ?_
          rw [decide_eq_true (by omega)]
          exact ⟨rfl, rfl⟩
set_option maxRecDepth 100000 in
set_option maxHeartbeats 1600000 in
theorem c_md_isDer {l : Launch} {G : ks_G} {d : Nat} {S : ks_S} {V : Nat → Value} {y N n : Nat} {g : Nat → Nat} (hO : S.2.2 290 = some (rfE V)) (hy : S.2.2 y = some (kB N g)) (kg : kO g) (hn : n ≤ N) (hN : N < 2 ^ 28) : ks_P l G yX16_isDer mX16_isDer (d + 1) [.ref 290, .ref y, .int (nI n)] S (fun z S' => z = some (.int (ks_bo (sgF g 0 n))) ∧ S' = S) := by
  have eF : sgF g 0 n = decide (9 ≤ n ∧ n ≤ 73 ∧ g 0 = 48 ∧ g 1 = n - 3 ∧ g 2 = 2 ∧ ¬ g 3 = 0 ∧ 6 + g 3 < n ∧ g (4 + g 3) = 2 ∧ ¬ g (5 + g 3) = 0 ∧ g 3 + g (5 + g 3) + 7 = n ∧ (g 4 < 128 ∧ (g 3 = 1 ∨ ¬ g 4 = 0 ∨ 128 ≤ g (4 + 1))) ∧ (g (6 + g 3) < 128 ∧ (g (5 + g 3) = 1 ∨ ¬ g (6 + g 3) = 0 ∨ 128 ≤ g (6 + g 3 + 1)))) := by
    unfold sgF derN
    refine decide_eq_decide.mpr ?_
    simp only [decide_eq_true_eq, Nat.zero_add]
    rw [Nat.add_right_comm 4 (g 3) 2, Nat.add_right_comm 4 (g 3) 3, show 4 + 2 + g 3 = 6 + g 3 from rfl, show 4 + 3 + g 3 = 6 + g 3 + 1 by omega, show 2 + 2 = 4 from rfl, show 2 + 3 = 4 + 1 from rfl]
    constructor
    · rintro ⟨a1, a2, a3, a4, a5, a6, ⟨b1, b2, b3, b4⟩, c1, c2, c3, c4⟩
      refine ⟨a1, a2, a3, a4, b1, by omega, by omega, c1, by omega, by omega, ⟨b3, b4⟩, c3, ?_⟩
      rw [a6]
      exact c4
    · rintro ⟨a1, a2, a3, a4, b1, b2, b3, c1, c2, c3, ⟨b4, b5⟩, c4, c5⟩
      have e : g (5 + g 3) = n - 7 - g 3 := by omega
      rw [e] at c5
      exact ⟨a1, a2, a3, a4, by omega, e, ⟨b1, by omega, b4, b5⟩, c1, by omega, c4, c5⟩
  rw [eF]
  refine ks_of (by decide) rfl rfl (Nat.le_of_ble_eq_true rfl) ?_
  show ks_X l G mX16_isDer (d + 1) 0 [(0, .ref 290), (1, .ref y), (2, .int (nI n))] [] S _
  refine ks_iload_n dX16_isDer_0 rfl rfl ?_
  refine ks_bipush (x := nI 9) dX16_isDer_1 (by decide) rfl ?_
  refine ks_icmp_ltN (tgt := 40) (by omega) (by decide) dX16_isDer_3 (by decide) rfl (fun hb5 => ?_) (fun hb5 => ?_)
  · refine ks_iconst (x := nI 0) dX16_isDer_40 (by decide) rfl ?_
    refine ks_zret rfl rfl dX16_isDer_41 ?_
    rw [decide_eq_false (by (try simp only [decide_eq_true_eq, decide_eq_false_iff_not] at *); omega)]
    exact ⟨rfl, rfl⟩
  · refine ks_iload_n dX16_isDer_6 rfl rfl ?_
    refine ks_bipush (x := nI 73) dX16_isDer_7 (by decide) rfl ?_
    refine ks_icmp_gtN (tgt := 40) (by omega) (by decide) dX16_isDer_9 (by decide) rfl (fun hb6 => ?_) (fun hb6 => ?_)
    · refine ks_iconst (x := nI 0) dX16_isDer_40 (by decide) rfl ?_
      refine ks_zret rfl rfl dX16_isDer_41 ?_
      rw [decide_eq_false (by (try simp only [decide_eq_true_eq, decide_eq_false_iff_not] at *); omega)]
      exact ⟨rfl, rfl⟩
    · refine ks_aload_n dX16_isDer_12 rfl rfl ?_
      refine ks_iconst (x := nI 0) dX16_isDer_13 (by decide) rfl ?_
      refine ks_baldB (i := 0) hy rfl (by omega) (by omega) dX16_isDer_14 rfl ?_
      refine ks_bipush (x := nI 48) dX16_isDer_15 (by decide) rfl ?_
      refine ks_icmp_neYN (tgt := 40) (kg _) (by decide) dX16_isDer_17 (by decide) rfl (fun hb7 => ?_) (fun hb7 => ?_)
      · refine ks_iconst (x := nI 0) dX16_isDer_40 (by decide) rfl ?_
        refine ks_zret rfl rfl dX16_isDer_41 ?_
        rw [decide_eq_false (by (try simp only [decide_eq_true_eq, decide_eq_false_iff_not] at *); omega)]
        exact ⟨rfl, rfl⟩
      · refine ks_aload_n dX16_isDer_20 rfl rfl ?_
        refine ks_iconst (x := nI 1) dX16_isDer_21 (by decide) rfl ?_
        refine ks_baldB (i := 1) hy rfl (by omega) (by omega) dX16_isDer_22 rfl ?_
        refine ks_sipush (x := nI 255) dX16_isDer_23 (by decide) rfl ?_
        refine ks_andB (kg _) dX16_isDer_26 rfl ?_
        have hy26 : g 1 < 256 := (kg _)
        refine ks_iload_n dX16_isDer_27 rfl rfl ?_
        refine ks_iconst (x := nI 3) dX16_isDer_28 (by decide) rfl ?_
        refine ks_subN (by omega) dX16_isDer_29 rfl ?_
        refine ks_icmp_neN (tgt := 40) (by omega) (by omega) dX16_isDer_30 (by decide) rfl (fun hb8 => ?_) (fun hb8 => ?_)
        · refine ks_iconst (x := nI 0) dX16_isDer_40 (by decide) rfl ?_
          refine ks_zret rfl rfl dX16_isDer_41 ?_
          rw [decide_eq_false (by (try simp only [decide_eq_true_eq, decide_eq_false_iff_not] at *); omega)]
          exact ⟨rfl, rfl⟩
        · refine ks_aload_n dX16_isDer_33 rfl rfl ?_
          refine ks_iconst (x := nI 2) dX16_isDer_34 (by decide) rfl ?_
          refine ks_baldB (i := 2) hy rfl (by omega) (by omega) dX16_isDer_35 rfl ?_
          refine ks_iconst (x := nI 2) dX16_isDer_36 (by decide) rfl ?_
          refine ks_icmp_eqYN (tgt := 42) (kg _) (by decide) dX16_isDer_37 (by decide) rfl (fun hb9 => ?_) (fun hb9 => ?_)
          · refine ks_aload_n dX16_isDer_42 rfl rfl ?_
            refine ks_iconst (x := nI 3) dX16_isDer_43 (by decide) rfl ?_
            refine ks_baldB (i := 3) hy rfl (by omega) (by omega) dX16_isDer_44 rfl ?_
            refine ks_sipush (x := nI 255) dX16_isDer_45 (by decide) rfl ?_
            refine ks_andB (kg _) dX16_isDer_48 rfl ?_
            have hy48 : g 3 < 256 := (kg _)
            refine ks_istore_n dX16_isDer_49 (by decide) rfl ?_
            refine ks_sub [(3, _), (0, _), (1, _), (2, _)] rfl ?_
            refine ks_iload_n dX16_isDer_50 rfl rfl ?_
            refine ks_if_eqN (tgt := 71) (by omega) dX16_isDer_51 (by decide) rfl (fun hb10 => ?_) (fun hb10 => ?_)
            · refine ks_iconst (x := nI 0) dX16_isDer_71 (by decide) rfl ?_
              refine ks_zret rfl rfl dX16_isDer_72 ?_
              rw [decide_eq_false (by (try simp only [decide_eq_true_eq, decide_eq_false_iff_not] at *); omega)]
              exact ⟨rfl, rfl⟩
            · refine ks_bipush (x := nI 6) dX16_isDer_54 (by decide) rfl ?_
              refine ks_iload_n dX16_isDer_56 rfl rfl ?_
              refine ks_addN dX16_isDer_57 rfl ?_
              refine ks_iload_n dX16_isDer_58 rfl rfl ?_
              refine ks_icmp_geN (tgt := 71) (by omega) (by omega) dX16_isDer_59 (by decide) rfl (fun hb11 => ?_) (fun hb11 => ?_)
              · refine ks_iconst (x := nI 0) dX16_isDer_71 (by decide) rfl ?_
                refine ks_zret rfl rfl dX16_isDer_72 ?_
                rw [decide_eq_false (by (try simp only [decide_eq_true_eq, decide_eq_false_iff_not] at *); omega)]
                exact ⟨rfl, rfl⟩
              · refine ks_aload_n dX16_isDer_62 rfl rfl ?_
                refine ks_iconst (x := nI 4) dX16_isDer_63 (by decide) rfl ?_
                refine ks_iload_n dX16_isDer_64 rfl rfl ?_
                refine ks_addN dX16_isDer_65 rfl ?_
                refine ks_baldB (i := 4 + (g 3)) hy rfl (by omega) (by omega) dX16_isDer_66 rfl ?_
                refine ks_iconst (x := nI 2) dX16_isDer_67 (by decide) rfl ?_
                refine ks_icmp_eqYN (tgt := 73) (kg _) (by decide) dX16_isDer_68 (by decide) rfl (fun hb12 => ?_) (fun hb12 => ?_)
                · refine ks_aload_n dX16_isDer_73 rfl rfl ?_
                  refine ks_iconst (x := nI 5) dX16_isDer_74 (by decide) rfl ?_
                  refine ks_iload_n dX16_isDer_75 rfl rfl ?_
                  refine ks_addN dX16_isDer_76 rfl ?_
                  refine ks_baldB (i := 5 + (g 3)) hy rfl (by omega) (by omega) dX16_isDer_77 rfl ?_
                  refine ks_sipush (x := nI 255) dX16_isDer_78 (by decide) rfl ?_
                  refine ks_andB (kg _) dX16_isDer_81 rfl ?_
                  have hy81 : g (5 + (g 3)) < 256 := (kg _)
                  refine ks_istore dX16_isDer_82 (by decide) rfl ?_
                  refine ks_sub [(4, _), (0, _), (1, _), (2, _), (3, _)] rfl ?_
                  refine ks_iload dX16_isDer_84 rfl rfl ?_
                  refine ks_if_eqN (tgt := 100) (by omega) dX16_isDer_86 (by decide) rfl (fun hb13 => ?_) (fun hb13 => ?_)
                  · refine ks_iconst (x := nI 0) dX16_isDer_100 (by decide) rfl ?_
                    refine ks_zret rfl rfl dX16_isDer_101 ?_
                    rw [decide_eq_false (by (try simp only [decide_eq_true_eq, decide_eq_false_iff_not] at *); omega)]
                    exact ⟨rfl, rfl⟩
                  · refine ks_iload_n dX16_isDer_89 rfl rfl ?_
                    refine ks_iload dX16_isDer_90 rfl rfl ?_
                    refine ks_addN dX16_isDer_92 rfl ?_
                    refine ks_bipush (x := nI 7) dX16_isDer_93 (by decide) rfl ?_
                    refine ks_addN dX16_isDer_95 rfl ?_
                    refine ks_iload_n dX16_isDer_96 rfl rfl ?_
                    refine ks_icmp_eqN (tgt := 102) (by omega) (by omega) dX16_isDer_97 (by decide) rfl (fun hb14 => ?_) (fun hb14 => ?_)
                    · refine ks_aload_n dX16_isDer_102 rfl rfl ?_
                      refine ks_iconst (x := nI 4) dX16_isDer_103 (by decide) rfl ?_
                      refine ks_iload_n dX16_isDer_104 rfl rfl ?_
                      refine ks_callS (n := 3) (M' := mX16_shortest) (c_md_shortest (d := d) hy kg (by omega) (by omega) hN) kx_2253 kx_2254 kx_30 kx_2255 (by decide +kernel) rfl (by decide) (Nat.le_of_ble_eq_true rfl) rfl dX16_isDer_105 rfl (fun z1 T1 y1 => ?_)
                      obtain ⟨rfl, hT1⟩ := y1
                      obtain rfl := hT1.symm
                      refine ks_if_eqZ (tgt := 128) dX16_isDer_108 (by decide) rfl (fun hb15 => ?_) (fun hb15 => ?_)
                      · refine ks_iconst (x := nI 0) dX16_isDer_128 (by decide) rfl ?_
                        refine ks_zret rfl rfl dX16_isDer_129 ?_
                        rw [decide_eq_false (by (try simp only [decide_eq_true_eq, decide_eq_false_iff_not] at *); omega)]
                        exact ⟨rfl, rfl⟩
                      · refine ks_aload_n dX16_isDer_111 rfl rfl ?_
                        refine ks_bipush (x := nI 6) dX16_isDer_112 (by decide) rfl ?_
                        refine ks_iload_n dX16_isDer_114 rfl rfl ?_
                        refine ks_addN dX16_isDer_115 rfl ?_
                        refine ks_iload dX16_isDer_116 rfl rfl ?_
                        refine ks_callS (n := 3) (M' := mX16_shortest) (c_md_shortest (d := d) hy kg (by omega) (by omega) hN) kx_2253 kx_2254 kx_30 kx_2255 (by decide +kernel) rfl (by decide) (Nat.le_of_ble_eq_true rfl) rfl dX16_isDer_118 rfl (fun z2 T2 y2 => ?_)
                        obtain ⟨rfl, hT2⟩ := y2
                        obtain rfl := hT2.symm
                        refine ks_if_eqZ (tgt := 128) dX16_isDer_121 (by decide) rfl (fun hb16 => ?_) (fun hb16 => ?_)
                        · refine ks_iconst (x := nI 0) dX16_isDer_128 (by decide) rfl ?_
                          refine ks_zret rfl rfl dX16_isDer_129 ?_
                          rw [decide_eq_false (by (try simp only [decide_eq_true_eq, decide_eq_false_iff_not] at *); omega)]
                          exact ⟨rfl, rfl⟩
                        · refine ks_iconst (x := nI 1) dX16_isDer_124 (by decide) rfl ?_
                          refine ks_goto (tgt := 129) dX16_isDer_125 (by decide) ?_
                          refine ks_zret rfl rfl dX16_isDer_129 ?_
                          rw [decide_eq_true (by (try simp only [decide_eq_true_eq, decide_eq_false_iff_not] at *); omega)]
                          exact ⟨rfl, rfl⟩
                    · refine ks_iconst (x := nI 0) dX16_isDer_100 (by decide) rfl ?_
                      refine ks_zret rfl rfl dX16_isDer_101 ?_
                      rw [decide_eq_false (by (try simp only [decide_eq_true_eq, decide_eq_false_iff_not] at *); omega)]
                      exact ⟨rfl, rfl⟩
                · refine ks_iconst (x := nI 0) dX16_isDer_71 (by decide) rfl ?_
                  refine ks_zret rfl rfl dX16_isDer_72 ?_
                  rw [decide_eq_false (by (try simp only [decide_eq_true_eq, decide_eq_false_iff_not] at *); omega)]
                  exact ⟨rfl, rfl⟩
          · refine ks_iconst (x := nI 0) dX16_isDer_40 (by decide) rfl ?_
            refine ks_zret rfl rfl dX16_isDer_41 ?_
            rw [decide_eq_false (by (try simp only [decide_eq_true_eq, decide_eq_false_iff_not] at *); omega)]
            exact ⟨rfl, rfl⟩
