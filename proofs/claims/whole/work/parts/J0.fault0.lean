/-! THE REFERENCE: the fault of a block -/
/-- of the object only the places of scripts and pushes were written -/
def ftK (S S' : ks_S) (V V' : Nat → Value) : Prop := ks_up S S' [290] ∧ S'.2.2 290 = some (rfE V') ∧ ∀ k, k ≠ 40 → k ≠ 41 → k ≠ 63 → V' k = V k
theorem ftK.rf {S : ks_S} {V : Nat → Value} (h : S.2.2 290 = some (rfE V)) : ftK S S V V := ⟨ks_up.rf _ _, h, fun _ _ _ _ => rfl⟩
theorem ftK.sk {S S1 S2 : ks_S} {V V1 V2 : Nat → Value} (h : ftK S S1 V V1) (k : skK S1 S2 V1 V2) : ftK S S2 V V2 := ⟨h.1.trans k.1, k.2.1, fun j h1 h2 h3 => (k.2.2 j h1 h2).trans (h.2.2 j h1 h2 h3)⟩
theorem ftK.bh {S S1 S2 : ks_S} {V V1 V2 : Nat → Value} (h : ftK S S1 V V1) (k : bhK S1 S2 V1 V2) : ftK S S2 V V2 := ⟨h.1.trans k.1, k.2.1, fun j h1 h2 h3 => (k.2.2 j h3).trans (h.2.2 j h1 h2 h3)⟩
theorem ftK.pd {S S1 : ks_S} {V V1 : Nat → Value} {P y N : Nat} {M : List Nat} (h : ftK S S1 V V1) (k : pdK S P y N M) : pdK S1 P y N M := by
  obtain ⟨g, A, gi, a, b, c, d, e, f⟩ := id k
  exact k.up h.1 (fun x hx => by rw [List.mem_singleton] at hx; omega)
theorem ftK.rb {S S1 : ks_S} {V V1 : Nat → Value} {n : Nat} {B : Nat → Bk} (h : ftK S S1 V V1) (k : rbS S n B) : rbS S1 n B := k.up h.1 (by decide)
theorem bytL_cg {f g : Nat → Nat} {s n : Nat} (h : ∀ j, j < n → f (s + j) = g (s + j)) : bytL f s n = bytL g s n := by
  unfold bytL
  exact List.map_congr_left (fun j hj => h j (List.mem_range.mp hj))
set_option maxRecDepth 100000 in
set_option maxHeartbeats 800000 in
theorem c_pd_asks {l : Launch} {G : ks_G} {d : Nat} {S : ks_S} {V : Nat → Value} {P y N : Nat} {M : List Nat} (hO : S.2.2 290 = some (rfE V)) (hK : pdK S P y N M) {s n : Nat} (hs : s + n ≤ M.length) : ks_P l G yX16_asks mX16_asks (d + 2) [.ref 290, .ref y, .int (nI s), .int (nI n)] S (fun z S' => z = some (.int (nI (ask_ (bytL (mg M) s n)))) ∧ ∃ V', bhK S S' V V') := by
  obtain ⟨g, A, gi, ⟨ey, kg⟩, ⟨hMN, hN16, hPB, hP6, hy6⟩, hg, hbl, X, hA⟩ := id hK
  rw [← bytL_cg (f := g) (fun j hj => hg _ (by omega))]
  exact c_md_asks hO ey kg (by omega) (by omega)
set_option maxRecDepth 100000 in
set_option maxHeartbeats 800000 in
theorem l_ftLast {l : Launch} {G : ks_G} {d : Nat} {S : ks_S} {V : Nat → Value} {P y N : Nat} {M : List Nat} (hO : S.2.2 290 = some (rfE V)) (hK : pdK S P y N M) {n q h : Nat} {B : Nat → Bk} (hR : rbS S n B) (hq : q < n) (eh : h = bkH (B q) + 1) (hh : h < 2 ^ 30) : ∀ (w i : Nat) (S1 : ks_S) (V1 : Nat → Value), i + w = mg M 80 → ftK S S1 V V1 → (∀ j, j < i → laM M h j = true) → ks_X l G mX16_fault (d + 4) 362 [(0, .ref 290), (1, .ref P), (2, .int (nI q)), (3, .long (lN (tmB M))), (6, .int (nI i))] [] S1 (fun z S' => z = some (.int (nI (if ∃ t, t < mg M 80 ∧ laM M h t = false then 10 else 0))) ∧ ∃ V', ftK S S' V V') := by
  have b9 := blk_b hK.bl
  have tm9 : tmB M < 2 ^ 32 := ks_num_lt hK.kO 4 68
  intro w
  induction w with
  | zero =>
    intro i S1 V1 hi K1 hl
    have Q1 := K1.pd hK
    have o1 := K1.2.1
    obtain ⟨g1, A1, gi1, ⟨ey1, kg1⟩, ⟨hMN1, hN161, hPB1, hP61, hy61⟩, hg1, hbl1, X1, hA1⟩ := id Q1
    have R1 := K1.rb hR
    obtain ⟨⟨bf1, h3411, hbf1⟩, hB1, hn611⟩ := id R1
    obtain ⟨oq1, -⟩ := hB1 q hq
    refine ks_iload dX16_fault_362 rfl rfl ?_
    refine ks_aload_n dX16_fault_364 rfl rfl ?_
    refine ks_getN (T := TX13) (kf := 1) kx_1814 rfl in_X13 cl_X13 (by decide) X1.1 rfl dX16_fault_365 rfl ?_
    refine ks_icmp_geN (tgt := 402) (by omega) (by omega) dX16_fault_368 (by decide) rfl (fun h1 => ?_) (fun h1 => absurd h1 (by omega))
    refine ks_iconst (x := nI 0) dX16_fault_402 (by decide) rfl ?_
    refine ks_iret rfl dX16_fault_403 ?_
    rw [if_neg (fun ⟨t, ht, hc⟩ => by rw [hl t (by omega)] at hc; cases hc)]
    exact ⟨rfl, V1, K1⟩
  | succ w ih =>
    intro i S1 V1 hi K1 hl
    have Q1 := K1.pd hK
    have o1 := K1.2.1
    obtain ⟨g1, A1, gi1, ⟨ey1, kg1⟩, ⟨hMN1, hN161, hPB1, hP61, hy61⟩, hg1, hbl1, X1, hA1⟩ := id Q1
    have R1 := K1.rb hR
    obtain ⟨⟨bf1, h3411, hbf1⟩, hB1, hn611⟩ := id R1
    obtain ⟨oq1, -⟩ := hB1 q hq
    refine ks_iload dX16_fault_362 rfl rfl ?_
    refine ks_aload_n dX16_fault_364 rfl rfl ?_
    refine ks_getN (T := TX13) (kf := 1) kx_1814 rfl in_X13 cl_X13 (by decide) X1.1 rfl dX16_fault_365 rfl ?_
    refine ks_icmp_geN (tgt := 402) (by omega) (by omega) dX16_fault_368 (by decide) rfl (fun h1 => absurd h1 (by omega)) (fun h1 => ?_)
    obtain ⟨k, p, m, u, e, etx⟩ : ∃ k p m u e, txP M i = (k, p, m, u, e) := ⟨_, _, _, _, _, rfl⟩
    refine ks_aload_n dX16_fault_371 rfl rfl ?_
    refine ks_aload_n dX16_fault_372 rfl rfl ?_
    refine ks_iload dX16_fault_373 rfl rfl ?_
    refine ks_aload_n dX16_fault_375 rfl rfl ?_
    refine ks_getf (T := TX16) (kf := 46) kx_2414 rfl in_X16 cl_X16 (by decide) o1 rfl dX16_fault_376 rfl ?_
    refine ks_iload_n dX16_fault_379 rfl rfl ?_
    refine ks_aaldN (i := q) (b := (bkN (B q))) (by decide) h3411 rfl (by omega) (by decide) (hbf1 q (by omega)) dX16_fault_380 rfl ?_
    refine ks_getN (T := TX12) (kf := 4) kx_2064 rfl in_X12 cl_X12 (by decide) oq1 rfl dX16_fault_381 rfl ?_
    refine ks_iconst (x := nI 1) dX16_fault_384 (by decide) rfl ?_
    refine ks_addN dX16_fault_385 rfl ?_
    refine ks_lload_n dX16_fault_386 rfl rfl ?_
    rw [← eh]
    refine ks_callV (n := 4) (M' := mX16_isLast) (c_pd_isLast (d := d) o1 Q1 (by omega) etx (by omega) tm9) o1 cl_X16 rfl kx_2840 kx_2842 kxp_140 kx_30 kx_2843 (by decide +kernel) rfl (by decide) (Nat.le_of_ble_eq_true rfl) rfl dX16_fault_387 rfl (fun z2 T2 y2 => ?_)
    obtain ⟨rfl, V2, K2⟩ := y2
    have el : last_b (mg M) M.length k p e h (tmB M) = laM M h i := by unfold laM; rw [etx]
    rw [el]
    refine ks_if_neZ (tgt := 396) dX16_fault_390 (by decide) rfl (fun h2 => ?_) (fun h2 => ?_)
    · refine ks_incN (c := 1) (e := i + 1) dX16_fault_396 rfl (by decide) rfl (by decide) rfl ?_
      refine ks_sub [(6, _), (0, _), (1, _), (2, _), (3, _)] rfl ?_
      refine ks_goto (tgt := 362) dX16_fault_399 (by decide) ?_
      refine ks_sub [(0, _), (1, _), (2, _), (3, _), (6, _)] rfl (ih (i + 1) T2 V2 (by omega) (K1.sk K2) (fun j hj => ?_))
      by_cases ej : j = i
      · subst ej; exact h2
      · exact hl j (by omega)
    · refine ks_bipush (x := nI 10) dX16_fault_393 (by decide) rfl ?_
      refine ks_iret rfl dX16_fault_395 ?_
      rw [if_pos ⟨i, by omega, h2⟩]
      exact ⟨rfl, V2, K1.sk K2⟩
set_option maxRecDepth 100000 in
set_option maxHeartbeats 800000 in
theorem l_ftAsk {l : Launch} {G : ks_G} {d : Nat} {S : ks_S} {V : Nat → Value} {P y N : Nat} {M : List Nat} (hO : S.2.2 290 = some (rfE V)) (hK : pdK S P y N M) {n q h : Nat} {B : Nat → Bk} (hR : rbS S n B) (hq : q < n) (eh : h = bkH (B q) + 1) (hh : h < 2 ^ 30) (hL16 : M.length ≤ 1600) : ∀ (w t x : Nat) (S1 : ks_S) (V1 : Nat → Value), t + w = mg M 80 → ftK S S1 V V1 → x = sum_ (asM M) t → ks_X l G mX16_fault (d + 4) 208 [(0, .ref 290), (1, .ref P), (2, .int (nI q)), (3, .long (lN (tmB M))), (5, .int (nI x)), (6, .int (nI t))] [] S1 (fun z S' => z = some (.int (nI (if 60 < sum_ (asM M) (mg M 80) then 9 else if ∃ t, t < mg M 80 ∧ laM M h t = false then 10 else 0))) ∧ ∃ V', ftK S S' V V') := by
  have b9 := blk_b hK.bl
  have sb : ∀ c, c ≤ mg M 80 → sum_ (asM M) c ≤ 20 * 1600 * 220 * c := fun c hc => sumB (fun i hi => by
    obtain ⟨b1, b2, b3, b4, b5, b6⟩ := bk_tx hK.bl (t := i) (by omega)
    obtain ⟨k, p, m, u, e, etx⟩ : ∃ k p m u e, txP M i = (k, p, m, u, e) := ⟨_, _, _, _, _, rfl⟩
    rw [etx] at b3
    have bd := tx_bd b3
    unfold asM asT
    rw [etx]
    have s1 : sum_ (fun i => ask_ (scI (mg M) M.length p i)) k ≤ 20 * 1600 * k := sumB (fun j hj => by
      have := tx_in b3 j hj
      have h9 := ask_le (scI (mg M) M.length p j)
      unfold scI at h9 ⊢
      rw [bytL_len] at h9
      omega)
    have s2 : sum_ (fun i => ask_ (scO (mg M) M.length u i)) m ≤ 20 * 1600 * m := sumB (fun j hj => by
      have := tx_out b3 j hj
      have h9 := ask_le (scO (mg M) M.length u j)
      unfold scO at h9 ⊢
      rw [bytL_len] at h9
      omega)
    exact Nat.le_trans (Nat.add_le_add s1 s2) (by omega))
  intro w
  induction w with
  | zero =>
    intro t x S1 V1 hi K1 hx
    have Q1 := K1.pd hK
    have o1 := K1.2.1
    obtain ⟨g1, A1, gi1, ⟨ey1, kg1⟩, ⟨hMN1, hN161, hPB1, hP61, hy61⟩, hg1, hbl1, X1, hA1⟩ := id Q1
    obtain rfl : t = mg M 80 := hi
    have hb9 := sb _ (Nat.le_refl _)
    rw [← hx] at hb9
    refine ks_iload dX16_fault_208 rfl rfl ?_
    refine ks_aload_n dX16_fault_210 rfl rfl ?_
    refine ks_getN (T := TX13) (kf := 1) kx_1814 rfl in_X13 cl_X13 (by decide) X1.1 rfl dX16_fault_211 rfl ?_
    refine ks_icmp_geN (tgt := 349) (by omega) (by omega) dX16_fault_214 (by decide) rfl (fun h1 => ?_) (fun h1 => absurd h1 (by omega))
    refine ks_iload dX16_fault_349 rfl rfl ?_
    refine ks_bipush (x := nI 60) dX16_fault_351 (by decide) rfl ?_
    refine ks_icmp_leN (tgt := 359) (by omega) (by decide) dX16_fault_353 (by decide) rfl (fun h2 => ?_) (fun h2 => ?_)
    · refine ks_iconst (x := nI 0) dX16_fault_359 (by decide) rfl ?_
      refine ks_istore dX16_fault_360 (by decide) rfl ?_
      refine ks_sub [(6, _), (0, _), (1, _), (2, _), (3, _), (5, _)] rfl ?_
      rw [← hx, if_neg (by omega)]
      exact ks_sub [(0, _), (1, _), (2, _), (3, _), (6, _)] rfl (l_ftLast (d := d) hO hK hR hq eh hh (mg M 80) 0 S1 V1 (by omega) K1 (fun j h => absurd h (Nat.not_lt_zero _)))
    · refine ks_bipush (x := nI 9) dX16_fault_356 (by decide) rfl ?_
      refine ks_iret rfl dX16_fault_358 ?_
      rw [← hx, if_pos (by omega)]
      exact ⟨rfl, V1, K1⟩
  | succ w ih =>
    intro t x S1 V1 hi K1 hx
    have Q1 := K1.pd hK
    have o1 := K1.2.1
    obtain ⟨g1, A1, gi1, ⟨ey1, kg1⟩, ⟨hMN1, hN161, hPB1, hP61, hy61⟩, hg1, hbl1, X1, hA1⟩ := id Q1
    have t80 : t < mg M 80 := by omega
    obtain ⟨b1, b2, b3, b4, b5, b6⟩ := bk_tx hK.bl t80
    obtain ⟨k, p, m, u, e, etx⟩ : ∃ k p m u e, txP M t = (k, p, m, u, e) := ⟨_, _, _, _, _, rfl⟩
    rw [etx] at b3
    have bd := tx_bd b3
    have hTo := tx_out b3
    have hTi := tx_in b3
    have eas : sum_ (asM M) (t + 1) = x + (sum_ (fun i => ask_ (scI (mg M) M.length p i)) k + sum_ (fun i => ask_ (scO (mg M) M.length u i)) m) := by
      show sum_ (asM M) t + asM M t = _
      unfold asM asT
      rw [hx, etx]
      rfl
    have louts : ∀ (v i z : Nat) (S4 : ks_S) (V4 : Nat → Value), i + v = m → ftK S S4 V V4 → z = x + sum_ (fun i => ask_ (scI (mg M) M.length p i)) k + sum_ (fun i => ask_ (scO (mg M) M.length u i)) i → ks_X l G mX16_fault (d + 4) 283 [(0, .ref 290), (1, .ref P), (2, .int (nI q)), (3, .long (lN (tmB M))), (5, .int (nI z)), (6, .int (nI t)), (7, .int (nI i))] [] S4 (fun z S' => z = some (.int (nI (if 60 < sum_ (asM M) (mg M 80) then 9 else if ∃ t, t < mg M 80 ∧ laM M h t = false then 10 else 0))) ∧ ∃ V', ftK S S' V V') := by
      intro v
      induction v with
      | zero =>
        intro i z S4 V4 hj K4 hz
        have Q4 := K4.pd hK
        have o4 := K4.2.1
        obtain ⟨g4, A4, gi4, ⟨ey4, kg4⟩, ⟨hMN4, hN164, hPB4, hP64, hy64⟩, hg4, hbl4, X4, hA4⟩ := id Q4
        have r34 : S4.2.2 (P + 4) = some (kN 12 (A4 3)) := X4.2.1 3 (by decide)
        have a34 : A4 3 t = m := by rw [(hA4 t t80).2.1.2, etx]
        refine ks_iload dX16_fault_283 rfl rfl ?_
        refine ks_aload_n dX16_fault_285 rfl rfl ?_
        refine ks_getN (T := TX13) (kf := 5) kx_1822 rfl in_X13 cl_X13 (by decide) X4.1 rfl dX16_fault_286 rfl ?_
        refine ks_iload dX16_fault_289 rfl rfl ?_
        refine ks_ialdN (i := t) r34 rfl (by omega) (by decide) dX16_fault_291 rfl ?_
        rw [a34]
        refine ks_icmp_geN (tgt := 343) (by omega) (by omega) dX16_fault_292 (by decide) rfl (fun h1 => ?_) (fun h1 => absurd h1 (by omega))
        obtain rfl : i = m := hj
        refine ks_incN (c := 1) (e := t + 1) dX16_fault_343 rfl (by decide) rfl (by decide) rfl ?_
        refine ks_sub [(6, _), (0, _), (1, _), (2, _), (3, _), (5, _), (7, _)] rfl ?_
        refine ks_goto (tgt := 208) dX16_fault_346 (by decide) ?_
        exact ks_sub [(0, _), (1, _), (2, _), (3, _), (5, _), (6, _)] rfl (ih (t + 1) z S4 V4 (by omega) K4 (by rw [eas, hz, Nat.add_assoc]))
      | succ v ihv =>
        intro i z S4 V4 hj K4 hz
        have Q4 := K4.pd hK
        have o4 := K4.2.1
        obtain ⟨g4, A4, gi4, ⟨ey4, kg4⟩, ⟨hMN4, hN164, hPB4, hP64, hy64⟩, hg4, hbl4, X4, hA4⟩ := id Q4
        have r34 : S4.2.2 (P + 4) = some (kN 12 (A4 3)) := X4.2.1 3 (by decide)
        have a34 : A4 3 t = m := by rw [(hA4 t t80).2.1.2, etx]
        refine ks_iload dX16_fault_283 rfl rfl ?_
        refine ks_aload_n dX16_fault_285 rfl rfl ?_
        refine ks_getN (T := TX13) (kf := 5) kx_1822 rfl in_X13 cl_X13 (by decide) X4.1 rfl dX16_fault_286 rfl ?_
        refine ks_iload dX16_fault_289 rfl rfl ?_
        refine ks_ialdN (i := t) r34 rfl (by omega) (by decide) dX16_fault_291 rfl ?_
        rw [a34]
        refine ks_icmp_geN (tgt := 343) (by omega) (by omega) dX16_fault_292 (by decide) rfl (fun h1 => absurd h1 (by omega)) (fun h1 => ?_)
        have hik : i < (txP M t).2.2.1 := by rw [etx]; show i < m; omega
        have zb := hTo i (by omega)
        refine ks_aload_n dX16_fault_295 rfl rfl ?_
        refine ks_aload_n dX16_fault_296 rfl rfl ?_
        refine ks_getN (T := TX13) (kf := 0) kx_1813 rfl in_X13 cl_X13 (by decide) X4.1 rfl dX16_fault_297 rfl ?_
        refine ks_aload_n dX16_fault_300 rfl rfl ?_
        refine ks_aload_n dX16_fault_301 rfl rfl ?_
        refine ks_iload dX16_fault_302 rfl rfl ?_
        refine ks_iload dX16_fault_304 rfl rfl ?_
        refine ks_callV (n := 3) (M' := mX16_output) (c_pd_output (d := d + 1) o4 Q4 t80 hik) o4 cl_X16 rfl kx_2141 kx_2143 kxp_82 kx_30 kx_2144 (by decide +kernel) rfl (by decide) (Nat.le_of_ble_eq_true rfl) rfl dX16_fault_306 rfl (fun z5 T5 y5 => ?_)
        obtain ⟨rfl, V5, K5⟩ := y5
        have KK5 := K4.sk K5
        have Q5 := KK5.pd hK
        have o5 := KK5.2.1
        obtain ⟨g5, A5, gi5, ⟨ey5, kg5⟩, ⟨hMN5, hN165, hPB5, hP65, hy65⟩, hg5, hbl5, X5, hA5⟩ := id Q5
        refine ks_bipush (x := nI 8) dX16_fault_309 (by decide) rfl ?_
        refine ks_addN dX16_fault_311 rfl ?_
        refine ks_callV (n := 2) (M' := mX16_script) (c_pd_scrO (d := d + 2) o5 Q5 t80 hik) o5 cl_X16 rfl kx_2126 kx_2128 kxp_79 kx_30 kx_2129 (by decide +kernel) rfl (by decide) (Nat.le_of_ble_eq_true rfl) rfl dX16_fault_312 rfl (fun z6 T6 y6 => ?_)
        obtain ⟨rfl, V6, K6, v40, v41⟩ := y6
        rw [etx] at v40 v41
        have v40 : V6 40 = .int (nI (oS (mg M) M.length u i)) := v40
        have v41 : V6 41 = .int (nI (oZ (mg M) M.length u i)) := v41
        have KK6 := KK5.sk K6
        have Q6 := KK6.pd hK
        have o6 := KK6.2.1
        obtain ⟨g6, A6, gi6, ⟨ey6, kg6⟩, ⟨hMN6, hN166, hPB6, hP66, hy66⟩, hg6, hbl6, X6, hA6⟩ := id Q6
        refine ks_pop dX16_fault_315 rfl rfl ?_
        refine ks_iload dX16_fault_316 rfl rfl ?_
        refine ks_aload_n dX16_fault_318 rfl rfl ?_
        refine ks_aload_n dX16_fault_319 rfl rfl ?_
        refine ks_getN (T := TX13) (kf := 0) kx_1813 rfl in_X13 cl_X13 (by decide) X6.1 rfl dX16_fault_320 rfl ?_
        refine ks_aload_n dX16_fault_323 rfl rfl ?_
        refine ks_getf (T := TX16) (kf := 40) kx_2408 rfl in_X16 cl_X16 (by decide) o6 rfl dX16_fault_324 rfl ?_
        refine ks_tv v40 ?_
        refine ks_aload_n dX16_fault_327 rfl rfl ?_
        refine ks_getf (T := TX16) (kf := 41) kx_2409 rfl in_X16 cl_X16 (by decide) o6 rfl dX16_fault_328 rfl ?_
        refine ks_tv v41 ?_
        refine ks_callV (n := 3) (M' := mX16_asks) (c_pd_asks (d := d + 1) o6 Q6 (s := oS (mg M) M.length u i) (n := oZ (mg M) M.length u i) (by omega)) o6 cl_X16 rfl kx_2836 kx_2838 kxp_139 kx_30 kx_2839 (by decide +kernel) rfl (by decide) (Nat.le_of_ble_eq_true rfl) rfl dX16_fault_331 rfl (fun z7 T7 y7 => ?_)
        obtain ⟨rfl, V7, K7⟩ := y7
        refine ks_addN dX16_fault_334 rfl ?_
        refine ks_istore dX16_fault_335 (by decide) rfl ?_
        refine ks_sub [(5, _), (0, _), (1, _), (2, _), (3, _), (6, _), (7, _)] rfl ?_
        refine ks_incN (c := 1) (e := i + 1) dX16_fault_337 rfl (by decide) rfl (by decide) rfl ?_
        refine ks_sub [(7, _), (0, _), (1, _), (2, _), (3, _), (5, _), (6, _)] rfl ?_
        refine ks_goto (tgt := 283) dX16_fault_340 (by decide) ?_
        exact ks_sub [(0, _), (1, _), (2, _), (3, _), (5, _), (6, _), (7, _)] rfl (ihv (i + 1) _ T7 V7 (by omega) (KK6.bh K7) (by rw [hz]; exact Nat.add_assoc _ _ _))
    have lins : ∀ (v i z : Nat) (S4 : ks_S) (V4 : Nat → Value), i + v = k → ftK S S4 V V4 → z = x + sum_ (fun i => ask_ (scI (mg M) M.length p i)) i → ks_X l G mX16_fault (d + 4) 220 [(0, .ref 290), (1, .ref P), (2, .int (nI q)), (3, .long (lN (tmB M))), (5, .int (nI z)), (6, .int (nI t)), (7, .int (nI i))] [] S4 (fun z S' => z = some (.int (nI (if 60 < sum_ (asM M) (mg M 80) then 9 else if ∃ t, t < mg M 80 ∧ laM M h t = false then 10 else 0))) ∧ ∃ V', ftK S S' V V') := by
      intro v
      induction v with
      | zero =>
        intro i z S4 V4 hj K4 hz
        have Q4 := K4.pd hK
        have o4 := K4.2.1
        obtain ⟨g4, A4, gi4, ⟨ey4, kg4⟩, ⟨hMN4, hN164, hPB4, hP64, hy64⟩, hg4, hbl4, X4, hA4⟩ := id Q4
        have r24 : S4.2.2 (P + 3) = some (kN 12 (A4 2)) := X4.2.1 2 (by decide)
        have a24 : A4 2 t = k := by rw [(hA4 t t80).2.1.1, etx]
        refine ks_iload dX16_fault_220 rfl rfl ?_
        refine ks_aload_n dX16_fault_222 rfl rfl ?_
        refine ks_getN (T := TX13) (kf := 4) kx_1820 rfl in_X13 cl_X13 (by decide) X4.1 rfl dX16_fault_223 rfl ?_
        refine ks_iload dX16_fault_226 rfl rfl ?_
        refine ks_ialdN (i := t) r24 rfl (by omega) (by decide) dX16_fault_228 rfl ?_
        rw [a24]
        refine ks_icmp_geN (tgt := 280) (by omega) (by omega) dX16_fault_229 (by decide) rfl (fun h1 => ?_) (fun h1 => absurd h1 (by omega))
        obtain rfl : i = k := hj
        refine ks_iconst (x := nI 0) dX16_fault_280 (by decide) rfl ?_
        refine ks_istore dX16_fault_281 (by decide) rfl ?_
        refine ks_sub [(7, _), (0, _), (1, _), (2, _), (3, _), (5, _), (6, _)] rfl ?_
        exact ks_sub [(0, _), (1, _), (2, _), (3, _), (5, _), (6, _), (7, _)] rfl (louts m 0 z S4 V4 (by omega) K4 (by rw [hz]; rfl))
      | succ v ihv =>
        intro i z S4 V4 hj K4 hz
        have Q4 := K4.pd hK
        have o4 := K4.2.1
        obtain ⟨g4, A4, gi4, ⟨ey4, kg4⟩, ⟨hMN4, hN164, hPB4, hP64, hy64⟩, hg4, hbl4, X4, hA4⟩ := id Q4
        have r24 : S4.2.2 (P + 3) = some (kN 12 (A4 2)) := X4.2.1 2 (by decide)
        have a24 : A4 2 t = k := by rw [(hA4 t t80).2.1.1, etx]
        refine ks_iload dX16_fault_220 rfl rfl ?_
        refine ks_aload_n dX16_fault_222 rfl rfl ?_
        refine ks_getN (T := TX13) (kf := 4) kx_1820 rfl in_X13 cl_X13 (by decide) X4.1 rfl dX16_fault_223 rfl ?_
        refine ks_iload dX16_fault_226 rfl rfl ?_
        refine ks_ialdN (i := t) r24 rfl (by omega) (by decide) dX16_fault_228 rfl ?_
        rw [a24]
        refine ks_icmp_geN (tgt := 280) (by omega) (by omega) dX16_fault_229 (by decide) rfl (fun h1 => absurd h1 (by omega)) (fun h1 => ?_)
        have hik : i < (txP M t).1 := by rw [etx]; show i < k; omega
        have zb := hTi i (by omega)
        refine ks_aload_n dX16_fault_232 rfl rfl ?_
        refine ks_aload_n dX16_fault_233 rfl rfl ?_
        refine ks_getN (T := TX13) (kf := 0) kx_1813 rfl in_X13 cl_X13 (by decide) X4.1 rfl dX16_fault_234 rfl ?_
        refine ks_aload_n dX16_fault_237 rfl rfl ?_
        refine ks_aload_n dX16_fault_238 rfl rfl ?_
        refine ks_iload dX16_fault_239 rfl rfl ?_
        refine ks_iload dX16_fault_241 rfl rfl ?_
        refine ks_callV (n := 3) (M' := mX16_input) (c_pd_input (d := d + 1) o4 Q4 t80 hik) o4 cl_X16 rfl kx_2122 kx_2124 kxp_78 kx_30 kx_2125 (by decide +kernel) rfl (by decide) (Nat.le_of_ble_eq_true rfl) rfl dX16_fault_243 rfl (fun z5 T5 y5 => ?_)
        obtain ⟨rfl, V5, K5⟩ := y5
        have KK5 := K4.sk K5
        have Q5 := KK5.pd hK
        have o5 := KK5.2.1
        obtain ⟨g5, A5, gi5, ⟨ey5, kg5⟩, ⟨hMN5, hN165, hPB5, hP65, hy65⟩, hg5, hbl5, X5, hA5⟩ := id Q5
        refine ks_bipush (x := nI 36) dX16_fault_246 (by decide) rfl ?_
        refine ks_addN dX16_fault_248 rfl ?_
        refine ks_callV (n := 2) (M' := mX16_script) (c_pd_scrI (d := d + 2) o5 Q5 t80 hik) o5 cl_X16 rfl kx_2126 kx_2128 kxp_79 kx_30 kx_2129 (by decide +kernel) rfl (by decide) (Nat.le_of_ble_eq_true rfl) rfl dX16_fault_249 rfl (fun z6 T6 y6 => ?_)
        obtain ⟨rfl, V6, K6, v40, v41⟩ := y6
        rw [etx] at v40 v41
        have v40 : V6 40 = .int (nI (iS (mg M) M.length p i)) := v40
        have v41 : V6 41 = .int (nI (iZ (mg M) M.length p i)) := v41
        have KK6 := KK5.sk K6
        have Q6 := KK6.pd hK
        have o6 := KK6.2.1
        obtain ⟨g6, A6, gi6, ⟨ey6, kg6⟩, ⟨hMN6, hN166, hPB6, hP66, hy66⟩, hg6, hbl6, X6, hA6⟩ := id Q6
        refine ks_pop dX16_fault_252 rfl rfl ?_
        refine ks_iload dX16_fault_253 rfl rfl ?_
        refine ks_aload_n dX16_fault_255 rfl rfl ?_
        refine ks_aload_n dX16_fault_256 rfl rfl ?_
        refine ks_getN (T := TX13) (kf := 0) kx_1813 rfl in_X13 cl_X13 (by decide) X6.1 rfl dX16_fault_257 rfl ?_
        refine ks_aload_n dX16_fault_260 rfl rfl ?_
        refine ks_getf (T := TX16) (kf := 40) kx_2408 rfl in_X16 cl_X16 (by decide) o6 rfl dX16_fault_261 rfl ?_
        refine ks_tv v40 ?_
        refine ks_aload_n dX16_fault_264 rfl rfl ?_
        refine ks_getf (T := TX16) (kf := 41) kx_2409 rfl in_X16 cl_X16 (by decide) o6 rfl dX16_fault_265 rfl ?_
        refine ks_tv v41 ?_
        refine ks_callV (n := 3) (M' := mX16_asks) (c_pd_asks (d := d + 1) o6 Q6 (s := iS (mg M) M.length p i) (n := iZ (mg M) M.length p i) (by omega)) o6 cl_X16 rfl kx_2836 kx_2838 kxp_139 kx_30 kx_2839 (by decide +kernel) rfl (by decide) (Nat.le_of_ble_eq_true rfl) rfl dX16_fault_268 rfl (fun z7 T7 y7 => ?_)
        obtain ⟨rfl, V7, K7⟩ := y7
        refine ks_addN dX16_fault_271 rfl ?_
        refine ks_istore dX16_fault_272 (by decide) rfl ?_
        refine ks_sub [(5, _), (0, _), (1, _), (2, _), (3, _), (6, _), (7, _)] rfl ?_
        refine ks_incN (c := 1) (e := i + 1) dX16_fault_274 rfl (by decide) rfl (by decide) rfl ?_
        refine ks_sub [(7, _), (0, _), (1, _), (2, _), (3, _), (5, _), (6, _)] rfl ?_
        refine ks_goto (tgt := 220) dX16_fault_277 (by decide) ?_
        exact ks_sub [(0, _), (1, _), (2, _), (3, _), (5, _), (6, _), (7, _)] rfl (ihv (i + 1) _ T7 V7 (by omega) (KK6.bh K7) (by rw [hz]; exact Nat.add_assoc _ _ _))
    refine ks_iload dX16_fault_208 rfl rfl ?_
    refine ks_aload_n dX16_fault_210 rfl rfl ?_
    refine ks_getN (T := TX13) (kf := 1) kx_1814 rfl in_X13 cl_X13 (by decide) X1.1 rfl dX16_fault_211 rfl ?_
    refine ks_icmp_geN (tgt := 349) (by omega) (by omega) dX16_fault_214 (by decide) rfl (fun h1 => absurd h1 (by omega)) (fun h1 => ?_)
    refine ks_iconst (x := nI 0) dX16_fault_217 (by decide) rfl ?_
    refine ks_istore dX16_fault_218 (by decide) rfl ?_
    refine ks_sub [(7, _), (0, _), (1, _), (2, _), (3, _), (5, _), (6, _)] rfl ?_
    exact ks_sub [(0, _), (1, _), (2, _), (3, _), (5, _), (6, _), (7, _)] rfl (lins k 0 x S1 V1 (by omega) K1 rfl)
set_option maxRecDepth 100000 in
set_option maxHeartbeats 800000 in
theorem l_ftAlone {l : Launch} {G : ks_G} {d : Nat} {S : ks_S} {V : Nat → Value} {P y N : Nat} {M : List Nat} (hO : S.2.2 290 = some (rfE V)) (hK : pdK S P y N M) {n q h : Nat} {B : Nat → Bk} (hR : rbS S n B) (hq : q < n) (eh : h = bkH (B q) + 1) (hh : h < 2 ^ 30) (hL16 : M.length ≤ 1600) : ∀ (w i : Nat) (S1 : ks_S) (V1 : Nat → Value), i + w = mg M 80 → ftK S S1 V V1 → r1F M w i = r1F M (mg M 80) 0 → ks_X l G mX16_fault (d + 4) 170 [(0, .ref 290), (1, .ref P), (2, .int (nI q)), (3, .long (lN (tmB M))), (5, .int (nI i))] [] S1 (fun z S' => z = some (.int (nI (if r1F M (mg M 80) 0 ≠ 0 then r1F M (mg M 80) 0 else if 60 < sum_ (asM M) (mg M 80) then 9 else if ∃ t, t < mg M 80 ∧ laM M h t = false then 10 else 0))) ∧ ∃ V', ftK S S' V V') := by
  have b9 := blk_b hK.bl
  intro w
  induction w with
  | zero =>
    intro i S1 V1 hi K1 hl
    have Q1 := K1.pd hK
    have o1 := K1.2.1
    obtain ⟨g1, A1, gi1, ⟨ey1, kg1⟩, ⟨hMN1, hN161, hPB1, hP61, hy61⟩, hg1, hbl1, X1, hA1⟩ := id Q1
    refine ks_iload dX16_fault_170 rfl rfl ?_
    refine ks_aload_n dX16_fault_172 rfl rfl ?_
    refine ks_getN (T := TX13) (kf := 1) kx_1814 rfl in_X13 cl_X13 (by decide) X1.1 rfl dX16_fault_173 rfl ?_
    refine ks_icmp_geN (tgt := 202) (by omega) (by omega) dX16_fault_176 (by decide) rfl (fun h1 => ?_) (fun h1 => absurd h1 (by omega))
    refine ks_iconst (x := nI 0) dX16_fault_202 (by decide) rfl ?_
    refine ks_istore dX16_fault_203 (by decide) rfl ?_
    refine ks_sub [(5, _), (0, _), (1, _), (2, _), (3, _)] rfl ?_
    refine ks_iconst (x := nI 0) dX16_fault_205 (by decide) rfl ?_
    refine ks_istore dX16_fault_206 (by decide) rfl ?_
    refine ks_sub [(6, _), (0, _), (1, _), (2, _), (3, _), (5, _)] rfl ?_
    rw [← hl, if_neg (fun h => h rfl)]
    exact ks_sub [(0, _), (1, _), (2, _), (3, _), (5, _), (6, _)] rfl (l_ftAsk (d := d) hO hK hR hq eh hh hL16 (mg M 80) 0 0 S1 V1 (by omega) K1 rfl)
  | succ w ih =>
    intro i S1 V1 hi K1 hl
    have Q1 := K1.pd hK
    have o1 := K1.2.1
    obtain ⟨g1, A1, gi1, ⟨ey1, kg1⟩, ⟨hMN1, hN161, hPB1, hP61, hy61⟩, hg1, hbl1, X1, hA1⟩ := id Q1
    refine ks_iload dX16_fault_170 rfl rfl ?_
    refine ks_aload_n dX16_fault_172 rfl rfl ?_
    refine ks_getN (T := TX13) (kf := 1) kx_1814 rfl in_X13 cl_X13 (by decide) X1.1 rfl dX16_fault_173 rfl ?_
    refine ks_icmp_geN (tgt := 202) (by omega) (by omega) dX16_fault_176 (by decide) rfl (fun h1 => absurd h1 (by omega)) (fun h1 => ?_)
    refine ks_aload_n dX16_fault_179 rfl rfl ?_
    refine ks_aload_n dX16_fault_180 rfl rfl ?_
    refine ks_iload dX16_fault_181 rfl rfl ?_
    refine ks_callV (n := 2) (M' := mX16_alone) (c_pd_alone (d := d) o1 Q1 (t := i) (by omega)) o1 cl_X16 rfl kx_2828 kx_2830 kxp_137 kx_30 kx_2831 (by decide +kernel) rfl (by decide) (Nat.le_of_ble_eq_true rfl) rfl dX16_fault_183 rfl (fun z2 T2 y2 => ?_)
    obtain ⟨rfl, V2, K2⟩ := y2
    have rl : rfM M i ≤ 8 := rf_le _ _ _ _ _ _ _
    rw [r1F] at hl
    refine ks_istore dX16_fault_186 (by decide) rfl ?_
    refine ks_sub [(6, _), (0, _), (1, _), (2, _), (3, _), (5, _)] rfl ?_
    refine ks_iload dX16_fault_188 rfl rfl ?_
    refine ks_if_eqN (tgt := 196) (by omega) dX16_fault_190 (by decide) rfl (fun h2 => ?_) (fun h2 => ?_)
    · rw [if_pos h2] at hl
      refine ks_incN (c := 1) (e := i + 1) dX16_fault_196 rfl (by decide) rfl (by decide) rfl ?_
      refine ks_sub [(5, _), (0, _), (1, _), (2, _), (3, _), (6, _)] rfl ?_
      refine ks_goto (tgt := 170) dX16_fault_199 (by decide) ?_
      exact ks_sub [(0, _), (1, _), (2, _), (3, _), (5, _)] rfl (ih (i + 1) T2 V2 (by omega) (K1.sk K2) hl)
    · rw [if_neg h2] at hl
      refine ks_iload dX16_fault_193 rfl rfl ?_
      refine ks_iret rfl dX16_fault_195 ?_
      rw [← hl, if_pos h2]
      exact ⟨rfl, V2, K1.sk K2⟩
set_option maxRecDepth 100000 in
set_option maxHeartbeats 800000 in
theorem c_pd_same {l : Launch} {G : ks_G} {d : Nat} {S : ks_S} {P y N t i : Nat} {M : List Nat} (hK : pdK S P y N M) (ht : t < mg M 80) (hi : i < mg M 80) : ks_P l G yX16_alike mX16_alike d [.ref (P + 7), .int (nI (32 * t)), .ref (P + 7), .int (nI (32 * i)), .int (nI 32)] S (fun z S' => z = some (.int (ks_bo (sm32 (idB M t) 0 (idB M i) 0))) ∧ S' = S) := by
  obtain ⟨g, A, gi, ⟨ey, kg⟩, ⟨hMN, hN16, hPB, hP6, hy6⟩, hg, hbl, X, hA⟩ := id hK
  have b9 := blk_b hbl
  refine (c_md_alike32 X.2.2.1 X.2.2.2 X.2.2.1 X.2.2.2 (by omega) (by omega) (by decide) (by decide)).mono (fun z S' h => ⟨h.1.trans ?_, h.2⟩)
  rw [sm32_cg (g := gi) (g' := idB M t) (h := gi) (h' := idB M i) (a' := 0) (b' := 0) (fun j hj => by rw [Nat.zero_add]; exact (hA t ht).2.2.2 j hj) (fun j hj => by rw [Nat.zero_add]; exact (hA i hi).2.2.2 j hj)]
set_option maxRecDepth 100000 in
set_option maxHeartbeats 800000 in
theorem l_ftSame {l : Launch} {G : ks_G} {d : Nat} {S : ks_S} {V : Nat → Value} {P y N : Nat} {M : List Nat} (hO : S.2.2 290 = some (rfE V)) (hK : pdK S P y N M) {n q h : Nat} {B : Nat → Bk} (hR : rbS S n B) (hq : q < n) (eh : h = bkH (B q) + 1) (hh : h < 2 ^ 30) (hL16 : M.length ≤ 1600) : ∀ (w i : Nat), i + w = mg M 80 → (∀ p q, p < i → q < p → sm32 (idB M p) 0 (idB M q) 0 = false) → ks_X l G mX16_fault (d + 4) 107 [(0, .ref 290), (1, .ref P), (2, .int (nI q)), (3, .long (lN (tmB M))), (5, .int (nI i))] [] S (fun z S' => z = some (.int (nI (if sameF M = true then 6 else if r1F M (mg M 80) 0 ≠ 0 then r1F M (mg M 80) 0 else if 60 < sum_ (asM M) (mg M 80) then 9 else if ∃ t, t < mg M 80 ∧ laM M h t = false then 10 else 0))) ∧ ∃ V', ftK S S' V V') := by
  have b9 := blk_b hK.bl
  intro w
  induction w with
  | zero =>
    intro i hi hl
    obtain ⟨g, A, gi, ⟨ey, kg⟩, ⟨hMN, hN16, hPB, hP6, hy6⟩, hg, hbl, X, hA⟩ := id hK
    refine ks_iload dX16_fault_107 rfl rfl ?_
    refine ks_aload_n dX16_fault_109 rfl rfl ?_
    refine ks_getN (T := TX13) (kf := 1) kx_1814 rfl in_X13 cl_X13 (by decide) X.1 rfl dX16_fault_110 rfl ?_
    refine ks_icmp_geN (tgt := 167) (by omega) (by omega) dX16_fault_113 (by decide) rfl (fun h1 => ?_) (fun h1 => absurd h1 (by omega))
    refine ks_iconst (x := nI 0) dX16_fault_167 (by decide) rfl ?_
    refine ks_istore dX16_fault_168 (by decide) rfl ?_
    refine ks_sub [(5, _), (0, _), (1, _), (2, _), (3, _)] rfl ?_
    have sF : sameF M = false := by
      cases hs : sameF M with
      | false => rfl
      | true =>
        obtain ⟨p, q, h1, h2, h3⟩ := sameF_iff.mp hs
        rw [hl p q (by omega) h2] at h3
        cases h3
    rw [if_neg (by rw [sF]; decide)]
    exact ks_sub [(0, _), (1, _), (2, _), (3, _), (5, _)] rfl (l_ftAlone (d := d) hO hK hR hq eh hh hL16 (mg M 80) 0 S V (by omega) (ftK.rf hO) rfl)
  | succ w ih =>
    intro i hi hl
    obtain ⟨g, A, gi, ⟨ey, kg⟩, ⟨hMN, hN16, hPB, hP6, hy6⟩, hg, hbl, X, hA⟩ := id hK
    refine ks_iload dX16_fault_107 rfl rfl ?_
    refine ks_aload_n dX16_fault_109 rfl rfl ?_
    refine ks_getN (T := TX13) (kf := 1) kx_1814 rfl in_X13 cl_X13 (by decide) X.1 rfl dX16_fault_110 rfl ?_
    refine ks_icmp_geN (tgt := 167) (by omega) (by omega) dX16_fault_113 (by decide) rfl (fun h1 => absurd h1 (by omega)) (fun h1 => ?_)
    have inner : ∀ (v j : Nat), j + v = i → (∀ a, a < j → sm32 (idB M i) 0 (idB M a) 0 = false) → ks_X l G mX16_fault (d + 4) 119 [(0, .ref 290), (1, .ref P), (2, .int (nI q)), (3, .long (lN (tmB M))), (5, .int (nI i)), (6, .int (nI j))] [] S (fun z S' => z = some (.int (nI (if sameF M = true then 6 else if r1F M (mg M 80) 0 ≠ 0 then r1F M (mg M 80) 0 else if 60 < sum_ (asM M) (mg M 80) then 9 else if ∃ t, t < mg M 80 ∧ laM M h t = false then 10 else 0))) ∧ ∃ V', ftK S S' V V') := by
      intro v
      induction v with
      | zero =>
        intro j hj ha
        refine ks_iload dX16_fault_119 rfl rfl ?_
        refine ks_iload dX16_fault_121 rfl rfl ?_
        refine ks_icmp_geN (tgt := 161) (by omega) (by omega) dX16_fault_123 (by decide) rfl (fun h2 => ?_) (fun h2 => absurd h2 (by omega))
        refine ks_incN (c := 1) (e := i + 1) dX16_fault_161 rfl (by decide) rfl (by decide) rfl ?_
        refine ks_sub [(5, _), (0, _), (1, _), (2, _), (3, _), (6, _)] rfl ?_
        refine ks_goto (tgt := 107) dX16_fault_164 (by decide) ?_
        obtain rfl : j = i := hj
        refine ks_sub [(0, _), (1, _), (2, _), (3, _), (5, _)] rfl (ih (j + 1) (by omega) (fun p q h3 h4 => ?_))
        by_cases ep : p = j
        · subst ep; exact ha q h4
        · exact hl p q (by omega) h4
      | succ v ihv =>
        intro j hj ha
        refine ks_iload dX16_fault_119 rfl rfl ?_
        refine ks_iload dX16_fault_121 rfl rfl ?_
        refine ks_icmp_geN (tgt := 161) (by omega) (by omega) dX16_fault_123 (by decide) rfl (fun h2 => absurd h2 (by omega)) (fun h2 => ?_)
        refine ks_aload_n dX16_fault_126 rfl rfl ?_
        refine ks_getN (T := TX13) (kf := 8) kx_1828 rfl in_X13 cl_X13 (by decide) X.1 rfl dX16_fault_127 rfl ?_
        refine ks_bipush (x := nI 32) dX16_fault_130 (by decide) rfl ?_
        refine ks_iload dX16_fault_132 rfl rfl ?_
        refine ks_mulN dX16_fault_134 rfl ?_
        refine ks_aload_n dX16_fault_135 rfl rfl ?_
        refine ks_getN (T := TX13) (kf := 8) kx_1828 rfl in_X13 cl_X13 (by decide) X.1 rfl dX16_fault_136 rfl ?_
        refine ks_bipush (x := nI 32) dX16_fault_139 (by decide) rfl ?_
        refine ks_iload dX16_fault_141 rfl rfl ?_
        refine ks_mulN dX16_fault_143 rfl ?_
        refine ks_bipush (x := nI 32) dX16_fault_144 (by decide) rfl ?_
        refine ks_callS (n := 5) (M' := mX16_alike) (c_pd_same (d := d + 3) hK (t := i) (i := j) (by omega) (by omega)) kx_2134 kx_2135 kx_30 kx_2136 (by decide +kernel) rfl (by decide) (Nat.le_of_ble_eq_true rfl) rfl dX16_fault_146 rfl (fun z2 T2 y2 => ?_)
        obtain ⟨rfl, hT2⟩ := y2
        obtain rfl := hT2.symm
        refine ks_if_eqZ (tgt := 155) dX16_fault_149 (by decide) rfl (fun h3 => ?_) (fun h3 => ?_)
        · refine ks_incN (c := 1) (e := j + 1) dX16_fault_155 rfl (by decide) rfl (by decide) rfl ?_
          refine ks_sub [(6, _), (0, _), (1, _), (2, _), (3, _), (5, _)] rfl ?_
          refine ks_goto (tgt := 119) dX16_fault_158 (by decide) ?_
          refine ks_sub [(0, _), (1, _), (2, _), (3, _), (5, _), (6, _)] rfl (ihv (j + 1) (by omega) (fun a h4 => ?_))
          by_cases ea : a = j
          · subst ea; exact h3
          · exact ha a (by omega)
        · refine ks_bipush (x := nI 6) dX16_fault_152 (by decide) rfl ?_
          refine ks_iret rfl dX16_fault_154 ?_
          rw [if_pos (sameF_iff.mpr ⟨i, j, by omega, by omega, h3⟩)]
          exact ⟨rfl, V, ftK.rf hO⟩
    refine ks_iconst (x := nI 0) dX16_fault_116 (by decide) rfl ?_
    refine ks_istore dX16_fault_117 (by decide) rfl ?_
    refine ks_sub [(6, _), (0, _), (1, _), (2, _), (3, _), (5, _)] rfl ?_
    exact ks_sub [(0, _), (1, _), (2, _), (3, _), (5, _), (6, _)] rfl (inner i 0 (by omega) (fun a h => absurd h (Nat.not_lt_zero _)))
