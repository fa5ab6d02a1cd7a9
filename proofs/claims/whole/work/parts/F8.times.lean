/-! THE REFERENCE: multiples, numbers of bytes -/
theorem dg_grp (B : Nat) (f : Nat → Nat) : ∀ n, dg (B ^ 4) (fun j => dg B (fun k => f (4 * j + k)) 4) n = dg B f (4 * n)
  | 0 => rfl
  | n + 1 => by
    rw [dg_s, dg_grp B f n, Nat.mul_add, Nat.mul_one, dg_add, ← Nat.pow_mul, Nat.mul_comm (dg B _ 4)]
theorem dgW4 (f : Nat → Nat) (j : Nat) : dg 256 (fun k => f (4 * j + k)) 4 = (((0 * 2 ^ 8 + f (4 * j + 3)) * 2 ^ 8 + f (4 * j + 2)) * 2 ^ 8 + f (4 * j + 1)) * 2 ^ 8 + f (4 * j) := by
  simp only [dg_s, Nat.add_zero]
  show 0 + _ + _ + _ + _ = _
  omega
def fbF (hi : Bool) (g : Nat → Nat) (a : Nat) : Nat → Nat := fun k => if hi = true then g (a + 31 - k) else g (a + k)
theorem dg_by {g : Nat → Nat} {q s : Nat} (hg : ∀ j, j < 8 → g j < 4294967296) (hq : q < 8) (hs : s = 0 ∨ s = 8 ∨ s = 16 ∨ s = 24) : dg 4294967296 g 8 / 2 ^ (32 * q + s) % 256 = g q / 2 ^ s % 256 := by
  rw [Nat.pow_add, ← Nat.div_div_eq_div_mul, Nat.pow_mul, show (2 : Nat) ^ 32 = 4294967296 from rfl, dg_div (by decide) (fun k hk => hg k (by omega)) (by omega)]
  obtain ⟨m, hm⟩ : ∃ m, 8 - q = m + 1 := ⟨7 - q, by omega⟩
  rw [hm, dg_c]
  simp only [Nat.add_zero]
  rcases hs with rfl | rfl | rfl | rfl <;> omega
set_option maxRecDepth 100000 in
set_option maxHeartbeats 1600000 in
theorem c_md_times307 {l : Launch} {G : ks_G} {d : Nat} {S : ks_S} {V : Nat → Value} {R : Nat → Nat} {u U : Nat} (hO : S.2.2 290 = some (rfE V)) (hC : cvR S R) (hU : wA S u U) (hu9 : 329 ≤ u ∧ u ≤ 335) : ks_P l G yX16_times_ mX16_times_ (d + 4) [.ref 290, .ref u, .ref 307, .ref 315] S (fun z S' => z = none ∧ ks_up S S' [552, 316, 317, 318, 323, 324, 325, 326, 327, 328] ∧ ∃ R', cvR S' R' ∧ ptR R' 316 = rmL (ptR R 308) U 256 (R 316, R 317, 0) ∧ ∀ k, k < 316 ∨ 318 < k → k < 323 → R' k = R k) := by
  obtain ⟨gu, egu, bgu, dgu⟩ := id hU
  have kB : u < ks_B := by unfold ks_B; omega
  have un : ∀ L : List Nat, (∀ x ∈ L, x < 329 ∨ 335 < x) → u ∉ L := fun L h q => by have := h u q; omega
  have loop : ∀ (k : Nat) (S1 : ks_S) (R1 : Nat → Nat), k ≤ 256 → ks_up S S1 [552, 316, 317, 318, 323, 324, 325, 326, 327, 328] → cvR S1 R1 → rmL (ptR R 308) U k (ptR R1 316) = rmL (ptR R 308) U 256 (R 316, R 317, 0) → (∀ k, k < 316 ∨ 318 < k → k < 323 → R1 k = R k) → ks_X l G mX16_times_ (d + 4) 29 [(0, .ref 290), (1, .ref u), (2, .ref 307), (3, .ref 315), (4, .int (nI k - 1))] [] S1 (fun z S' => z = none ∧ ks_up S S' [552, 316, 317, 318, 323, 324, 325, 326, 327, 328] ∧ ∃ R', cvR S' R' ∧ ptR R' 316 = rmL (ptR R 308) U 256 (R 316, R 317, 0) ∧ ∀ k, k < 316 ∨ 318 < k → k < 323 → R' k = R k) := by
    intro k
    induction k with
    | zero =>
      intro S1 R1 hk hu c1 hr hR
      refine ks_iload dX16_times__29 rfl rfl ?_
      refine ks_if_ltD (tgt := 70) (by omega) dX16_times__31 (by decide) rfl (fun _ => ?_) (fun h => absurd rfl h)
      refine ks_ret rfl dX16_times__70 ?_
      exact ⟨rfl, hu, R1, c1, hr, hR⟩
    | succ k ih =>
      intro S1 R1 hk hu c1 hr hR
      rw [nI_D (by omega : 0 < k + 1), Nat.add_sub_cancel]
      have o1 := hu.at hO (by decide)
      have hp1 : ptR R1 308 = ptR R 308 := Prod.ext (hR _ (by decide) (by decide)) (Prod.ext (hR _ (by decide) (by decide)) (hR _ (by decide) (by decide)))
      refine ks_iload dX16_times__29 rfl rfl ?_
      refine ks_if_ltN (tgt := 70) (by omega) dX16_times__31 (by decide) rfl ?_
      refine ks_aload_n dX16_times__34 rfl rfl ?_
      refine ks_aload_n dX16_times__35 rfl rfl ?_
      refine ks_callV (n := 1) (M' := mX16_doubled) (c_md_doubled315 (d := d + 1) o1 c1) o1 cl_X16 rfl kx_2313 kx_2315 kxp_116 kx_30 kx_2316 (by decide +kernel) rfl (by decide) (Nat.le_of_ble_eq_true rfl) rfl dX16_times__36 rfl (fun z2 T2 y2 => ?_)
      obtain ⟨rfl, u2, R2, c2, e2, k2⟩ := y2
      have hu2 := hu.trans u2
      have o2 := u2.at o1 (by decide)
      have eu := hu2.at egu (un _ (by decide))
      have k32 : k % 32 < 32 := Nat.mod_lt _ (by decide)
      have ebit : U / 2 ^ k % 2 = gu (k / 32) / 2 ^ (k % 32) % 2 := by rw [← dgu]; exact dg_bit bgu (by omega)
      have hR2 : ∀ k, k < 316 ∨ 318 < k → k < 323 → R2 k = R k := fun k h1 h2 => (k2 k h1 h2).trans (hR k h1 h2)
      have hp2 : ptR R2 308 = ptR R 308 := Prod.ext (hR2 _ (by decide) (by decide)) (Prod.ext (hR2 _ (by decide) (by decide)) (hR2 _ (by decide) (by decide)))
      refine ks_aload_n dX16_times__39 rfl rfl ?_
      refine ks_iload dX16_times__40 rfl rfl ?_
      refine ks_bipush (x := nI 32) dX16_times__42 (by decide) rfl ?_
      refine ks_divN (by omega) (by decide) (by decide) dX16_times__44 rfl ?_
      refine ks_ialdN (i := k / 32) eu rfl (by omega) (by decide) dX16_times__45 rfl ?_
      refine ks_iload dX16_times__46 rfl rfl ?_
      refine ks_bipush (x := nI 32) dX16_times__48 (by decide) rfl ?_
      refine ks_remN (by omega) (by decide) (by decide) dX16_times__50 rfl ?_
      refine ks_ishr dX16_times__51 rfl ?_
      refine ks_iconst (x := nI 1) dX16_times__52 (by decide) rfl ?_
      refine ks_iand dX16_times__53 rfl ?_
      refine ks_ti (y := nI (gu (k / 32) / 2 ^ (k % 32) % 2)) (ishr_bit k32) ?_
      rw [← ebit]
      have lb : U / 2 ^ k % 2 < 2 := Nat.mod_lt _ (by decide)
      refine ks_iconst (x := nI 1) dX16_times__54 (by decide) rfl ?_
      refine ks_icmp_neN (tgt := 64) (by omega) (by decide) dX16_times__55 (by decide) rfl (fun h3 => ?_) (fun h3 => ?_)
      · have b1 : ¬ U / 2 ^ k % 2 = 1 := by omega
        refine ks_incD dX16_times__64 rfl (by decide) (by decide) rfl ?_
        refine ks_sub [(4, _), (0, _), (1, _), (2, _), (3, _)] rfl ?_
        refine ks_goto (tgt := 29) dX16_times__67 (by decide) ?_
        refine ks_sub [(0, _), (1, _), (2, _), (3, _), (4, _)] rfl (ih T2 R2 (by omega) hu2 c2 ?_ hR2)
        rw [e2, ← hr]
        show _ = rmL _ U k (if U / 2 ^ k % 2 = 1 then _ else _)
        rw [if_neg b1]
      · refine ks_aload_n dX16_times__58 rfl rfl ?_
        refine ks_aload_n dX16_times__59 rfl rfl ?_
        refine ks_aload_n dX16_times__60 rfl rfl ?_
        refine ks_callV (n := 2) (M' := mX16_plus) (c_md_plus307 (d := d) o2 c2) o2 cl_X16 rfl kx_2317 kx_2319 kxp_117 kx_30 kx_2320 (by decide +kernel) rfl (by decide) (Nat.le_of_ble_eq_true rfl) rfl dX16_times__61 rfl (fun z4 T4 y4 => ?_)
        obtain ⟨rfl, u4, R4, c4, e4, k4⟩ := y4
        have b1 : U / 2 ^ k % 2 = 1 := by omega
        refine ks_incD dX16_times__64 rfl (by decide) (by decide) rfl ?_
        refine ks_sub [(4, _), (0, _), (1, _), (2, _), (3, _)] rfl ?_
        refine ks_goto (tgt := 29) dX16_times__67 (by decide) ?_
        refine ks_sub [(0, _), (1, _), (2, _), (3, _), (4, _)] rfl (ih T4 R4 (by omega) (hu2.trans u4) c4 ?_ (fun j h1 h2 => (k4 j h1 h2).trans (hR2 j h1 h2)))
        rw [e4, e2, hp2, ← hr]
        show _ = rmL _ U k (if U / 2 ^ k % 2 = 1 then _ else _)
        rw [if_pos b1]
  obtain ⟨gz, ez, -, -⟩ := (hC.2.1 318 (by decide)).1
  have p315_0 : S.2.2 315 = some (.inr (17, [.ref 316, .ref 317, .ref 318])) := hC.2.2.2.2.1
  have r_0 := hC.1.1.1
  refine ks_of (by decide) rfl rfl (Nat.le_of_ble_eq_true rfl) ?_
  show ks_X l G mX16_times_ (d + 4) 0 [(0, .ref 290), (1, .ref u), (2, .ref 307), (3, .ref 315)] [] S _
  refine ks_iconst (x := nI 0) dX16_times__0 (by decide) rfl ?_
  refine ks_istore dX16_times__1 (by decide) rfl ?_
  refine ks_sub [(4, _), (0, _), (1, _), (2, _), (3, _)] rfl ?_
  refine ks_iload dX16_times__3 rfl rfl ?_
  refine ks_bipush (x := nI 8) dX16_times__5 (by decide) rfl ?_
  refine ks_icmp_geN (tgt := 24) (by decide) (by decide) dX16_times__7 (by decide) rfl (fun h => absurd h (by decide)) (fun _ => ?_)
  refine ks_aload_n dX16_times__10 rfl rfl ?_
  refine ks_getN (T := TX14) (kf := 2) kx_1797 rfl in_X14 cl_X14 (by decide) p315_0 rfl dX16_times__11 rfl ?_
  refine ks_iload dX16_times__14 rfl rfl ?_
  refine ks_iconst (x := nI 0) dX16_times__16 (by decide) rfl ?_
  refine ks_iastNN (i := 0) (v := 0) (by decide) ez (by decide) (by decide) dX16_times__17 rfl ?_
  refine ks_incN (c := 1) (e := 1) dX16_times__18 rfl (by decide) rfl (by decide) rfl ?_
  refine ks_sub [(4, _), (0, _), (1, _), (2, _), (3, _)] rfl ?_
  refine ks_goto (tgt := 3) dX16_times__21 (by decide) ?_
  refine ks_iload dX16_times__3 rfl rfl ?_
  refine ks_bipush (x := nI 8) dX16_times__5 (by decide) rfl ?_
  refine ks_icmp_geN (tgt := 24) (by decide) (by decide) dX16_times__7 (by decide) rfl (fun h => absurd h (by decide)) (fun _ => ?_)
  refine ks_aload_n dX16_times__10 rfl rfl ?_
  refine ks_getN (T := TX14) (kf := 2) kx_1797 rfl in_X14 cl_X14 (by decide) ((ks_set_ne _ _ (by decide)).trans p315_0) rfl dX16_times__11 rfl ?_
  refine ks_iload dX16_times__14 rfl rfl ?_
  refine ks_iconst (x := nI 0) dX16_times__16 (by decide) rfl ?_
  refine ks_iastNN (i := 1) (v := 0) (by decide) (ks_set_same _ _ _) (by decide) (by decide) dX16_times__17 rfl ?_
  refine ks_incN (c := 1) (e := 2) dX16_times__18 rfl (by decide) rfl (by decide) rfl ?_
  refine ks_sub [(4, _), (0, _), (1, _), (2, _), (3, _)] rfl ?_
  refine ks_goto (tgt := 3) dX16_times__21 (by decide) ?_
  refine ks_iload dX16_times__3 rfl rfl ?_
  refine ks_bipush (x := nI 8) dX16_times__5 (by decide) rfl ?_
  refine ks_icmp_geN (tgt := 24) (by decide) (by decide) dX16_times__7 (by decide) rfl (fun h => absurd h (by decide)) (fun _ => ?_)
  refine ks_aload_n dX16_times__10 rfl rfl ?_
  refine ks_getN (T := TX14) (kf := 2) kx_1797 rfl in_X14 cl_X14 (by decide) ((ks_set_ne _ _ (by decide)).trans ((ks_set_ne _ _ (by decide)).trans p315_0)) rfl dX16_times__11 rfl ?_
  refine ks_iload dX16_times__14 rfl rfl ?_
  refine ks_iconst (x := nI 0) dX16_times__16 (by decide) rfl ?_
  refine ks_iastNN (i := 2) (v := 0) (by decide) (ks_set_same _ _ _) (by decide) (by decide) dX16_times__17 rfl ?_
  refine ks_incN (c := 1) (e := 3) dX16_times__18 rfl (by decide) rfl (by decide) rfl ?_
  refine ks_sub [(4, _), (0, _), (1, _), (2, _), (3, _)] rfl ?_
  refine ks_goto (tgt := 3) dX16_times__21 (by decide) ?_
  refine ks_iload dX16_times__3 rfl rfl ?_
  refine ks_bipush (x := nI 8) dX16_times__5 (by decide) rfl ?_
  refine ks_icmp_geN (tgt := 24) (by decide) (by decide) dX16_times__7 (by decide) rfl (fun h => absurd h (by decide)) (fun _ => ?_)
  refine ks_aload_n dX16_times__10 rfl rfl ?_
  refine ks_getN (T := TX14) (kf := 2) kx_1797 rfl in_X14 cl_X14 (by decide) ((ks_set_ne _ _ (by decide)).trans ((ks_set_ne _ _ (by decide)).trans ((ks_set_ne _ _ (by decide)).trans p315_0))) rfl dX16_times__11 rfl ?_
  refine ks_iload dX16_times__14 rfl rfl ?_
  refine ks_iconst (x := nI 0) dX16_times__16 (by decide) rfl ?_
  refine ks_iastNN (i := 3) (v := 0) (by decide) (ks_set_same _ _ _) (by decide) (by decide) dX16_times__17 rfl ?_
  refine ks_incN (c := 1) (e := 4) dX16_times__18 rfl (by decide) rfl (by decide) rfl ?_
  refine ks_sub [(4, _), (0, _), (1, _), (2, _), (3, _)] rfl ?_
  refine ks_goto (tgt := 3) dX16_times__21 (by decide) ?_
  refine ks_iload dX16_times__3 rfl rfl ?_
  refine ks_bipush (x := nI 8) dX16_times__5 (by decide) rfl ?_
  refine ks_icmp_geN (tgt := 24) (by decide) (by decide) dX16_times__7 (by decide) rfl (fun h => absurd h (by decide)) (fun _ => ?_)
  refine ks_aload_n dX16_times__10 rfl rfl ?_
  refine ks_getN (T := TX14) (kf := 2) kx_1797 rfl in_X14 cl_X14 (by decide) ((ks_set_ne _ _ (by decide)).trans ((ks_set_ne _ _ (by decide)).trans ((ks_set_ne _ _ (by decide)).trans ((ks_set_ne _ _ (by decide)).trans p315_0)))) rfl dX16_times__11 rfl ?_
  refine ks_iload dX16_times__14 rfl rfl ?_
  refine ks_iconst (x := nI 0) dX16_times__16 (by decide) rfl ?_
  refine ks_iastNN (i := 4) (v := 0) (by decide) (ks_set_same _ _ _) (by decide) (by decide) dX16_times__17 rfl ?_
  refine ks_incN (c := 1) (e := 5) dX16_times__18 rfl (by decide) rfl (by decide) rfl ?_
  refine ks_sub [(4, _), (0, _), (1, _), (2, _), (3, _)] rfl ?_
  refine ks_goto (tgt := 3) dX16_times__21 (by decide) ?_
  refine ks_iload dX16_times__3 rfl rfl ?_
  refine ks_bipush (x := nI 8) dX16_times__5 (by decide) rfl ?_
  refine ks_icmp_geN (tgt := 24) (by decide) (by decide) dX16_times__7 (by decide) rfl (fun h => absurd h (by decide)) (fun _ => ?_)
  refine ks_aload_n dX16_times__10 rfl rfl ?_
  refine ks_getN (T := TX14) (kf := 2) kx_1797 rfl in_X14 cl_X14 (by decide) ((ks_set_ne _ _ (by decide)).trans ((ks_set_ne _ _ (by decide)).trans ((ks_set_ne _ _ (by decide)).trans ((ks_set_ne _ _ (by decide)).trans ((ks_set_ne _ _ (by decide)).trans p315_0))))) rfl dX16_times__11 rfl ?_
  refine ks_iload dX16_times__14 rfl rfl ?_
  refine ks_iconst (x := nI 0) dX16_times__16 (by decide) rfl ?_
  refine ks_iastNN (i := 5) (v := 0) (by decide) (ks_set_same _ _ _) (by decide) (by decide) dX16_times__17 rfl ?_
  refine ks_incN (c := 1) (e := 6) dX16_times__18 rfl (by decide) rfl (by decide) rfl ?_
  refine ks_sub [(4, _), (0, _), (1, _), (2, _), (3, _)] rfl ?_
  refine ks_goto (tgt := 3) dX16_times__21 (by decide) ?_
  refine ks_iload dX16_times__3 rfl rfl ?_
  refine ks_bipush (x := nI 8) dX16_times__5 (by decide) rfl ?_
  refine ks_icmp_geN (tgt := 24) (by decide) (by decide) dX16_times__7 (by decide) rfl (fun h => absurd h (by decide)) (fun _ => ?_)
  refine ks_aload_n dX16_times__10 rfl rfl ?_
  refine ks_getN (T := TX14) (kf := 2) kx_1797 rfl in_X14 cl_X14 (by decide) ((ks_set_ne _ _ (by decide)).trans ((ks_set_ne _ _ (by decide)).trans ((ks_set_ne _ _ (by decide)).trans ((ks_set_ne _ _ (by decide)).trans ((ks_set_ne _ _ (by decide)).trans ((ks_set_ne _ _ (by decide)).trans p315_0)))))) rfl dX16_times__11 rfl ?_
  refine ks_iload dX16_times__14 rfl rfl ?_
  refine ks_iconst (x := nI 0) dX16_times__16 (by decide) rfl ?_
  refine ks_iastNN (i := 6) (v := 0) (by decide) (ks_set_same _ _ _) (by decide) (by decide) dX16_times__17 rfl ?_
  refine ks_incN (c := 1) (e := 7) dX16_times__18 rfl (by decide) rfl (by decide) rfl ?_
  refine ks_sub [(4, _), (0, _), (1, _), (2, _), (3, _)] rfl ?_
  refine ks_goto (tgt := 3) dX16_times__21 (by decide) ?_
  refine ks_iload dX16_times__3 rfl rfl ?_
  refine ks_bipush (x := nI 8) dX16_times__5 (by decide) rfl ?_
  refine ks_icmp_geN (tgt := 24) (by decide) (by decide) dX16_times__7 (by decide) rfl (fun h => absurd h (by decide)) (fun _ => ?_)
  refine ks_aload_n dX16_times__10 rfl rfl ?_
  refine ks_getN (T := TX14) (kf := 2) kx_1797 rfl in_X14 cl_X14 (by decide) ((ks_set_ne _ _ (by decide)).trans ((ks_set_ne _ _ (by decide)).trans ((ks_set_ne _ _ (by decide)).trans ((ks_set_ne _ _ (by decide)).trans ((ks_set_ne _ _ (by decide)).trans ((ks_set_ne _ _ (by decide)).trans ((ks_set_ne _ _ (by decide)).trans p315_0))))))) rfl dX16_times__11 rfl ?_
  refine ks_iload dX16_times__14 rfl rfl ?_
  refine ks_iconst (x := nI 0) dX16_times__16 (by decide) rfl ?_
  refine ks_iastNN (i := 7) (v := 0) (by decide) (ks_set_same _ _ _) (by decide) (by decide) dX16_times__17 rfl ?_
  refine ks_incN (c := 1) (e := 8) dX16_times__18 rfl (by decide) rfl (by decide) rfl ?_
  refine ks_sub [(4, _), (0, _), (1, _), (2, _), (3, _)] rfl ?_
  refine ks_goto (tgt := 3) dX16_times__21 (by decide) ?_
  refine ks_iload dX16_times__3 rfl rfl ?_
  refine ks_bipush (x := nI 8) dX16_times__5 (by decide) rfl ?_
  refine ks_icmp_geN (tgt := 24) (by decide) (by decide) dX16_times__7 (by decide) rfl (fun _ => ?_) (fun h => absurd h (by decide))
  refine ks_sipush (x := nI 255) dX16_times__24 (by decide) rfl ?_
  refine ks_istore dX16_times__27 (by decide) rfl ?_
  refine ks_sub [(4, _), (0, _), (1, _), (2, _), (3, _)] rfl ?_
  refine ks_sub [(0, _), (1, _), (2, _), (3, _), (4, .int (nI 256 - 1))] rfl (loop 256 _ _ (by decide) (up8.mono (by decide)) (hC.z (by decide) up8 (ks_set_same _ _ _) z8) rfl (fun k hk hk2 => va_up_ne _ _ (by omega)))
set_option maxRecDepth 100000 in
set_option maxHeartbeats 1600000 in
theorem c_md_times311 {l : Launch} {G : ks_G} {d : Nat} {S : ks_S} {V : Nat → Value} {R : Nat → Nat} {u U : Nat} (hO : S.2.2 290 = some (rfE V)) (hC : cvR S R) (hU : wA S u U) (hu9 : 329 ≤ u ∧ u ≤ 335) : ks_P l G yX16_times_ mX16_times_ (d + 4) [.ref 290, .ref u, .ref 311, .ref 319] S (fun z S' => z = none ∧ ks_up S S' [552, 320, 321, 322, 323, 324, 325, 326, 327, 328] ∧ ∃ R', cvR S' R' ∧ ptR R' 320 = rmL (ptR R 312) U 256 (R 320, R 321, 0) ∧ ∀ k, k < 320 ∨ 322 < k → k < 323 → R' k = R k) := by
  obtain ⟨gu, egu, bgu, dgu⟩ := id hU
  have kB : u < ks_B := by unfold ks_B; omega
  have un : ∀ L : List Nat, (∀ x ∈ L, x < 329 ∨ 335 < x) → u ∉ L := fun L h q => by have := h u q; omega
  have loop : ∀ (k : Nat) (S1 : ks_S) (R1 : Nat → Nat), k ≤ 256 → ks_up S S1 [552, 320, 321, 322, 323, 324, 325, 326, 327, 328] → cvR S1 R1 → rmL (ptR R 312) U k (ptR R1 320) = rmL (ptR R 312) U 256 (R 320, R 321, 0) → (∀ k, k < 320 ∨ 322 < k → k < 323 → R1 k = R k) → ks_X l G mX16_times_ (d + 4) 29 [(0, .ref 290), (1, .ref u), (2, .ref 311), (3, .ref 319), (4, .int (nI k - 1))] [] S1 (fun z S' => z = none ∧ ks_up S S' [552, 320, 321, 322, 323, 324, 325, 326, 327, 328] ∧ ∃ R', cvR S' R' ∧ ptR R' 320 = rmL (ptR R 312) U 256 (R 320, R 321, 0) ∧ ∀ k, k < 320 ∨ 322 < k → k < 323 → R' k = R k) := by
    intro k
    induction k with
    | zero =>
      intro S1 R1 hk hu c1 hr hR
      refine ks_iload dX16_times__29 rfl rfl ?_
      refine ks_if_ltD (tgt := 70) (by omega) dX16_times__31 (by decide) rfl (fun _ => ?_) (fun h => absurd rfl h)
      refine ks_ret rfl dX16_times__70 ?_
      exact ⟨rfl, hu, R1, c1, hr, hR⟩
    | succ k ih =>
      intro S1 R1 hk hu c1 hr hR
      rw [nI_D (by omega : 0 < k + 1), Nat.add_sub_cancel]
      have o1 := hu.at hO (by decide)
      have hp1 : ptR R1 312 = ptR R 312 := Prod.ext (hR _ (by decide) (by decide)) (Prod.ext (hR _ (by decide) (by decide)) (hR _ (by decide) (by decide)))
      refine ks_iload dX16_times__29 rfl rfl ?_
      refine ks_if_ltN (tgt := 70) (by omega) dX16_times__31 (by decide) rfl ?_
      refine ks_aload_n dX16_times__34 rfl rfl ?_
      refine ks_aload_n dX16_times__35 rfl rfl ?_
      refine ks_callV (n := 1) (M' := mX16_doubled) (c_md_doubled319 (d := d + 1) o1 c1) o1 cl_X16 rfl kx_2313 kx_2315 kxp_116 kx_30 kx_2316 (by decide +kernel) rfl (by decide) (Nat.le_of_ble_eq_true rfl) rfl dX16_times__36 rfl (fun z2 T2 y2 => ?_)
      obtain ⟨rfl, u2, R2, c2, e2, k2⟩ := y2
      have hu2 := hu.trans u2
      have o2 := u2.at o1 (by decide)
      have eu := hu2.at egu (un _ (by decide))
      have k32 : k % 32 < 32 := Nat.mod_lt _ (by decide)
      have ebit : U / 2 ^ k % 2 = gu (k / 32) / 2 ^ (k % 32) % 2 := by rw [← dgu]; exact dg_bit bgu (by omega)
      have hR2 : ∀ k, k < 320 ∨ 322 < k → k < 323 → R2 k = R k := fun k h1 h2 => (k2 k h1 h2).trans (hR k h1 h2)
      have hp2 : ptR R2 312 = ptR R 312 := Prod.ext (hR2 _ (by decide) (by decide)) (Prod.ext (hR2 _ (by decide) (by decide)) (hR2 _ (by decide) (by decide)))
      refine ks_aload_n dX16_times__39 rfl rfl ?_
      refine ks_iload dX16_times__40 rfl rfl ?_
      refine ks_bipush (x := nI 32) dX16_times__42 (by decide) rfl ?_
      refine ks_divN (by omega) (by decide) (by decide) dX16_times__44 rfl ?_
      refine ks_ialdN (i := k / 32) eu rfl (by omega) (by decide) dX16_times__45 rfl ?_
      refine ks_iload dX16_times__46 rfl rfl ?_
      refine ks_bipush (x := nI 32) dX16_times__48 (by decide) rfl ?_
      refine ks_remN (by omega) (by decide) (by decide) dX16_times__50 rfl ?_
      refine ks_ishr dX16_times__51 rfl ?_
      refine ks_iconst (x := nI 1) dX16_times__52 (by decide) rfl ?_
      refine ks_iand dX16_times__53 rfl ?_
      refine ks_ti (y := nI (gu (k / 32) / 2 ^ (k % 32) % 2)) (ishr_bit k32) ?_
      rw [← ebit]
      have lb : U / 2 ^ k % 2 < 2 := Nat.mod_lt _ (by decide)
      refine ks_iconst (x := nI 1) dX16_times__54 (by decide) rfl ?_
      refine ks_icmp_neN (tgt := 64) (by omega) (by decide) dX16_times__55 (by decide) rfl (fun h3 => ?_) (fun h3 => ?_)
      · have b1 : ¬ U / 2 ^ k % 2 = 1 := by omega
        refine ks_incD dX16_times__64 rfl (by decide) (by decide) rfl ?_
        refine ks_sub [(4, _), (0, _), (1, _), (2, _), (3, _)] rfl ?_
        refine ks_goto (tgt := 29) dX16_times__67 (by decide) ?_
        refine ks_sub [(0, _), (1, _), (2, _), (3, _), (4, _)] rfl (ih T2 R2 (by omega) hu2 c2 ?_ hR2)
        rw [e2, ← hr]
        show _ = rmL _ U k (if U / 2 ^ k % 2 = 1 then _ else _)
        rw [if_neg b1]
      · refine ks_aload_n dX16_times__58 rfl rfl ?_
        refine ks_aload_n dX16_times__59 rfl rfl ?_
        refine ks_aload_n dX16_times__60 rfl rfl ?_
        refine ks_callV (n := 2) (M' := mX16_plus) (c_md_plus311 (d := d) o2 c2) o2 cl_X16 rfl kx_2317 kx_2319 kxp_117 kx_30 kx_2320 (by decide +kernel) rfl (by decide) (Nat.le_of_ble_eq_true rfl) rfl dX16_times__61 rfl (fun z4 T4 y4 => ?_)
        obtain ⟨rfl, u4, R4, c4, e4, k4⟩ := y4
        have b1 : U / 2 ^ k % 2 = 1 := by omega
        refine ks_incD dX16_times__64 rfl (by decide) (by decide) rfl ?_
        refine ks_sub [(4, _), (0, _), (1, _), (2, _), (3, _)] rfl ?_
        refine ks_goto (tgt := 29) dX16_times__67 (by decide) ?_
        refine ks_sub [(0, _), (1, _), (2, _), (3, _), (4, _)] rfl (ih T4 R4 (by omega) (hu2.trans u4) c4 ?_ (fun j h1 h2 => (k4 j h1 h2).trans (hR2 j h1 h2)))
        rw [e4, e2, hp2, ← hr]
        show _ = rmL _ U k (if U / 2 ^ k % 2 = 1 then _ else _)
        rw [if_pos b1]
  obtain ⟨gz, ez, -, -⟩ := (hC.2.1 322 (by decide)).1
  have p319_0 : S.2.2 319 = some (.inr (17, [.ref 320, .ref 321, .ref 322])) := hC.2.2.2.2.2
  have r_0 := hC.1.1.1
  refine ks_of (by decide) rfl rfl (Nat.le_of_ble_eq_true rfl) ?_
  show ks_X l G mX16_times_ (d + 4) 0 [(0, .ref 290), (1, .ref u), (2, .ref 311), (3, .ref 319)] [] S _
  refine ks_iconst (x := nI 0) dX16_times__0 (by decide) rfl ?_
  refine ks_istore dX16_times__1 (by decide) rfl ?_
  refine ks_sub [(4, _), (0, _), (1, _), (2, _), (3, _)] rfl ?_
  refine ks_iload dX16_times__3 rfl rfl ?_
  refine ks_bipush (x := nI 8) dX16_times__5 (by decide) rfl ?_
  refine ks_icmp_geN (tgt := 24) (by decide) (by decide) dX16_times__7 (by decide) rfl (fun h => absurd h (by decide)) (fun _ => ?_)
  refine ks_aload_n dX16_times__10 rfl rfl ?_
  refine ks_getN (T := TX14) (kf := 2) kx_1797 rfl in_X14 cl_X14 (by decide) p319_0 rfl dX16_times__11 rfl ?_
  refine ks_iload dX16_times__14 rfl rfl ?_
  refine ks_iconst (x := nI 0) dX16_times__16 (by decide) rfl ?_
  refine ks_iastNN (i := 0) (v := 0) (by decide) ez (by decide) (by decide) dX16_times__17 rfl ?_
  refine ks_incN (c := 1) (e := 1) dX16_times__18 rfl (by decide) rfl (by decide) rfl ?_
  refine ks_sub [(4, _), (0, _), (1, _), (2, _), (3, _)] rfl ?_
  refine ks_goto (tgt := 3) dX16_times__21 (by decide) ?_
  refine ks_iload dX16_times__3 rfl rfl ?_
  refine ks_bipush (x := nI 8) dX16_times__5 (by decide) rfl ?_
  refine ks_icmp_geN (tgt := 24) (by decide) (by decide) dX16_times__7 (by decide) rfl (fun h => absurd h (by decide)) (fun _ => ?_)
  refine ks_aload_n dX16_times__10 rfl rfl ?_
  refine ks_getN (T := TX14) (kf := 2) kx_1797 rfl in_X14 cl_X14 (by decide) ((ks_set_ne _ _ (by decide)).trans p319_0) rfl dX16_times__11 rfl ?_
  refine ks_iload dX16_times__14 rfl rfl ?_
  refine ks_iconst (x := nI 0) dX16_times__16 (by decide) rfl ?_
  refine ks_iastNN (i := 1) (v := 0) (by decide) (ks_set_same _ _ _) (by decide) (by decide) dX16_times__17 rfl ?_
  refine ks_incN (c := 1) (e := 2) dX16_times__18 rfl (by decide) rfl (by decide) rfl ?_
  refine ks_sub [(4, _), (0, _), (1, _), (2, _), (3, _)] rfl ?_
  refine ks_goto (tgt := 3) dX16_times__21 (by decide) ?_
  refine ks_iload dX16_times__3 rfl rfl ?_
  refine ks_bipush (x := nI 8) dX16_times__5 (by decide) rfl ?_
  refine ks_icmp_geN (tgt := 24) (by decide) (by decide) dX16_times__7 (by decide) rfl (fun h => absurd h (by decide)) (fun _ => ?_)
  refine ks_aload_n dX16_times__10 rfl rfl ?_
  refine ks_getN (T := TX14) (kf := 2) kx_1797 rfl in_X14 cl_X14 (by decide) ((ks_set_ne _ _ (by decide)).trans ((ks_set_ne _ _ (by decide)).trans p319_0)) rfl dX16_times__11 rfl ?_
  refine ks_iload dX16_times__14 rfl rfl ?_
  refine ks_iconst (x := nI 0) dX16_times__16 (by decide) rfl ?_
  refine ks_iastNN (i := 2) (v := 0) (by decide) (ks_set_same _ _ _) (by decide) (by decide) dX16_times__17 rfl ?_
  refine ks_incN (c := 1) (e := 3) dX16_times__18 rfl (by decide) rfl (by decide) rfl ?_
  refine ks_sub [(4, _), (0, _), (1, _), (2, _), (3, _)] rfl ?_
  refine ks_goto (tgt := 3) dX16_times__21 (by decide) ?_
  refine ks_iload dX16_times__3 rfl rfl ?_
  refine ks_bipush (x := nI 8) dX16_times__5 (by decide) rfl ?_
  refine ks_icmp_geN (tgt := 24) (by decide) (by decide) dX16_times__7 (by decide) rfl (fun h => absurd h (by decide)) (fun _ => ?_)
  refine ks_aload_n dX16_times__10 rfl rfl ?_
  refine ks_getN (T := TX14) (kf := 2) kx_1797 rfl in_X14 cl_X14 (by decide) ((ks_set_ne _ _ (by decide)).trans ((ks_set_ne _ _ (by decide)).trans ((ks_set_ne _ _ (by decide)).trans p319_0))) rfl dX16_times__11 rfl ?_
  refine ks_iload dX16_times__14 rfl rfl ?_
  refine ks_iconst (x := nI 0) dX16_times__16 (by decide) rfl ?_
  refine ks_iastNN (i := 3) (v := 0) (by decide) (ks_set_same _ _ _) (by decide) (by decide) dX16_times__17 rfl ?_
  refine ks_incN (c := 1) (e := 4) dX16_times__18 rfl (by decide) rfl (by decide) rfl ?_
  refine ks_sub [(4, _), (0, _), (1, _), (2, _), (3, _)] rfl ?_
  refine ks_goto (tgt := 3) dX16_times__21 (by decide) ?_
  refine ks_iload dX16_times__3 rfl rfl ?_
  refine ks_bipush (x := nI 8) dX16_times__5 (by decide) rfl ?_
  refine ks_icmp_geN (tgt := 24) (by decide) (by decide) dX16_times__7 (by decide) rfl (fun h => absurd h (by decide)) (fun _ => ?_)
  refine ks_aload_n dX16_times__10 rfl rfl ?_
  refine ks_getN (T := TX14) (kf := 2) kx_1797 rfl in_X14 cl_X14 (by decide) ((ks_set_ne _ _ (by decide)).trans ((ks_set_ne _ _ (by decide)).trans ((ks_set_ne _ _ (by decide)).trans ((ks_set_ne _ _ (by decide)).trans p319_0)))) rfl dX16_times__11 rfl ?_
  refine ks_iload dX16_times__14 rfl rfl ?_
  refine ks_iconst (x := nI 0) dX16_times__16 (by decide) rfl ?_
  refine ks_iastNN (i := 4) (v := 0) (by decide) (ks_set_same _ _ _) (by decide) (by decide) dX16_times__17 rfl ?_
  refine ks_incN (c := 1) (e := 5) dX16_times__18 rfl (by decide) rfl (by decide) rfl ?_
  refine ks_sub [(4, _), (0, _), (1, _), (2, _), (3, _)] rfl ?_
  refine ks_goto (tgt := 3) dX16_times__21 (by decide) ?_
  refine ks_iload dX16_times__3 rfl rfl ?_
  refine ks_bipush (x := nI 8) dX16_times__5 (by decide) rfl ?_
  refine ks_icmp_geN (tgt := 24) (by decide) (by decide) dX16_times__7 (by decide) rfl (fun h => absurd h (by decide)) (fun _ => ?_)
  refine ks_aload_n dX16_times__10 rfl rfl ?_
  refine ks_getN (T := TX14) (kf := 2) kx_1797 rfl in_X14 cl_X14 (by decide) ((ks_set_ne _ _ (by decide)).trans ((ks_set_ne _ _ (by decide)).trans ((ks_set_ne _ _ (by decide)).trans ((ks_set_ne _ _ (by decide)).trans ((ks_set_ne _ _ (by decide)).trans p319_0))))) rfl dX16_times__11 rfl ?_
  refine ks_iload dX16_times__14 rfl rfl ?_
  refine ks_iconst (x := nI 0) dX16_times__16 (by decide) rfl ?_
  refine ks_iastNN (i := 5) (v := 0) (by decide) (ks_set_same _ _ _) (by decide) (by decide) dX16_times__17 rfl ?_
  refine ks_incN (c := 1) (e := 6) dX16_times__18 rfl (by decide) rfl (by decide) rfl ?_
  refine ks_sub [(4, _), (0, _), (1, _), (2, _), (3, _)] rfl ?_
  refine ks_goto (tgt := 3) dX16_times__21 (by decide) ?_
  refine ks_iload dX16_times__3 rfl rfl ?_
  refine ks_bipush (x := nI 8) dX16_times__5 (by decide) rfl ?_
  refine ks_icmp_geN (tgt := 24) (by decide) (by decide) dX16_times__7 (by decide) rfl (fun h => absurd h (by decide)) (fun _ => ?_)
  refine ks_aload_n dX16_times__10 rfl rfl ?_
  refine ks_getN (T := TX14) (kf := 2) kx_1797 rfl in_X14 cl_X14 (by decide) ((ks_set_ne _ _ (by decide)).trans ((ks_set_ne _ _ (by decide)).trans ((ks_set_ne _ _ (by decide)).trans ((ks_set_ne _ _ (by decide)).trans ((ks_set_ne _ _ (by decide)).trans ((ks_set_ne _ _ (by decide)).trans p319_0)))))) rfl dX16_times__11 rfl ?_
  refine ks_iload dX16_times__14 rfl rfl ?_
  refine ks_iconst (x := nI 0) dX16_times__16 (by decide) rfl ?_
  refine ks_iastNN (i := 6) (v := 0) (by decide) (ks_set_same _ _ _) (by decide) (by decide) dX16_times__17 rfl ?_
  refine ks_incN (c := 1) (e := 7) dX16_times__18 rfl (by decide) rfl (by decide) rfl ?_
  refine ks_sub [(4, _), (0, _), (1, _), (2, _), (3, _)] rfl ?_
  refine ks_goto (tgt := 3) dX16_times__21 (by decide) ?_
  refine ks_iload dX16_times__3 rfl rfl ?_
  refine ks_bipush (x := nI 8) dX16_times__5 (by decide) rfl ?_
  refine ks_icmp_geN (tgt := 24) (by decide) (by decide) dX16_times__7 (by decide) rfl (fun h => absurd h (by decide)) (fun _ => ?_)
  refine ks_aload_n dX16_times__10 rfl rfl ?_
  refine ks_getN (T := TX14) (kf := 2) kx_1797 rfl in_X14 cl_X14 (by decide) ((ks_set_ne _ _ (by decide)).trans ((ks_set_ne _ _ (by decide)).trans ((ks_set_ne _ _ (by decide)).trans ((ks_set_ne _ _ (by decide)).trans ((ks_set_ne _ _ (by decide)).trans ((ks_set_ne _ _ (by decide)).trans ((ks_set_ne _ _ (by decide)).trans p319_0))))))) rfl dX16_times__11 rfl ?_
  refine ks_iload dX16_times__14 rfl rfl ?_
  refine ks_iconst (x := nI 0) dX16_times__16 (by decide) rfl ?_
  refine ks_iastNN (i := 7) (v := 0) (by decide) (ks_set_same _ _ _) (by decide) (by decide) dX16_times__17 rfl ?_
  refine ks_incN (c := 1) (e := 8) dX16_times__18 rfl (by decide) rfl (by decide) rfl ?_
  refine ks_sub [(4, _), (0, _), (1, _), (2, _), (3, _)] rfl ?_
  refine ks_goto (tgt := 3) dX16_times__21 (by decide) ?_
  refine ks_iload dX16_times__3 rfl rfl ?_
  refine ks_bipush (x := nI 8) dX16_times__5 (by decide) rfl ?_
  refine ks_icmp_geN (tgt := 24) (by decide) (by decide) dX16_times__7 (by decide) rfl (fun _ => ?_) (fun h => absurd h (by decide))
  refine ks_sipush (x := nI 255) dX16_times__24 (by decide) rfl ?_
  refine ks_istore dX16_times__27 (by decide) rfl ?_
  refine ks_sub [(4, _), (0, _), (1, _), (2, _), (3, _)] rfl ?_
  refine ks_sub [(0, _), (1, _), (2, _), (3, _), (4, .int (nI 256 - 1))] rfl (loop 256 _ _ (by decide) (up8.mono (by decide)) (hC.z (by decide) up8 (ks_set_same _ _ _) z8) rfl (fun k hk hk2 => va_up_ne _ _ (by omega)))
