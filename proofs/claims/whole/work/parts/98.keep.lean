/-! CHAIN: keep -/
theorem bkK.of {S : ks_S} {b : Nat} {M : List Nat} {q h w : Nat} {D : Bool} (hk : bkK S (b, M, q, h, w, D, none)) : ∃ g1 f2 g3 g4, bkX S b (nI M.length) (nI (mg M 80)) (nI q - 1) (nI h) (lN w) D .null g1 f2 g3 g4 ∧ M.length ≤ 1600 ∧ (∀ j, j < M.length → g1 j = mg M j) ∧ blk_ (mg M) M.length = true ∧ (∀ q, q ≤ mg M 80 → bs_ (mg M) M.length q = some (f2 q)) ∧ (∀ t, t < mg M 80 → ∀ j, j < 32 → g3 (32 * t + j) = idB M t j) ∧ (∀ j, j < 32 → g4 j = hsB M j) := by
  obtain ⟨g1, f2, g3, g4, h1, h2, h3, h4, h5, h6, h7, -⟩ := hk
  exact ⟨g1, f2, g3, g4, h1, h2, h3, h4, h5, h6, h7⟩
theorem bkK.mk {S : ks_S} {b : Nat} {M : List Nat} {q h w : Nat} {D : Bool} {g1 f2 g3 g4 : Nat → Nat} (h1 : bkX S b (nI M.length) (nI (mg M 80)) (nI q - 1) (nI h) (lN w) D .null g1 f2 g3 g4) (h2 : M.length ≤ 1600) (h3 : ∀ j, j < M.length → g1 j = mg M j) (h4 : blk_ (mg M) M.length = true) (h5 : ∀ q, q ≤ mg M 80 → bs_ (mg M) M.length q = some (f2 q)) (h6 : ∀ t, t < mg M 80 → ∀ j, j < 32 → g3 (32 * t + j) = idB M t j) (h7 : ∀ j, j < 32 → g4 j = hsB M j) : bkK S (b, M, q, h, w, D, none) := ⟨g1, f2, g3, g4, h1, h2, h3, h4, h5, h6, h7, fun c hc => by cases hc⟩
set_option maxRecDepth 100000 in
set_option maxHeartbeats 800000 in
theorem c_ch_keep {l : Launch} {G : ks_G} {d : Nat} {S : ks_S} {n best : Nat} {cc : Int32} {tk : Int64} {B : Nat → Bk} (hX : chX S n best cc tk B) {b q h N0 : Nat} {M : List Nat} (hn : n < 60) (hF : chF S n B (some b)) (hKb : bkK S (b, M, q, h, 0, false, none)) (hq : 0 < q ∧ q ≤ n) (hT : chT S n B) (hTg : tg_ok S N0) (hwk : 2 ^ 256 / (tg_num (btB M) + 1) < 2 ^ 63) : ks_P l G yX2_keep mX2_keep (d + 2) [.ref 41] S (fun z S' => z = some (.int (nI n)) ∧ ks_up S S' [45, 46, 47, 41, b] ∧ chX S' (n + 1) best cc tk (va_up B n (b, M, q, h, bkW (B (q - 1)) + 2 ^ 256 / (tg_num (btB M) + 1), false, none)) ∧ chF S' (n + 1) (va_up B n (b, M, q, h, bkW (B (q - 1)) + 2 ^ 256 / (tg_num (btB M) + 1), false, none)) none ∧ ∃ N, tg_ok S' N) := by
  obtain ⟨⟨bf, h42, hbn, hbl⟩, hsl⟩ := id hF
  obtain ⟨hb5, hsA, -⟩ := hsl b rfl
  have hbf2 : ∀ i, i < n → bf i = some (bkN (B i)) := by
    obtain ⟨-, ⟨bf9, q1, q2⟩, -, -⟩ := id hX
    rw [h42] at q1
    cases q1
    exact q2
  obtain ⟨g1, f2, g3, g4, F1, le, eg, bl, hst, hid, hhs⟩ := hKb.of
  have b9 := blk_b bl
  have b56 := F1.2.2.2.2.2.2.2.2.2
  have k1 := F1.2.2.2.2.2.1
  have bt32 : btB M < 2 ^ 32 := by unfold btB; rw [← bk_num (i := 72) (n := 4) eg (by omega)]; exact num4_lt k1 72
  have hDq := nI_D (by omega : 0 < q)
  obtain ⟨gx1, gx2, gx3, gx4, oq, -⟩ := hX.2.2.1 (q - 1) (by omega)
  refine ks_of (by decide) rfl rfl (Nat.le_of_ble_eq_true rfl) ?_
  show ks_X l G mX2_keep (d + 2) 0 [(0, .ref 41)] [] S _
  refine ks_aload_n dX2_keep_0 rfl rfl ?_
  refine ks_getf (T := TX2) (kf := 0) kx_729 rfl in_X2 cl_X2 (by decide) hX.1 rfl dX2_keep_1 rfl ?_
  refine ks_aload_n dX2_keep_4 rfl rfl ?_
  refine ks_getf (T := TX2) (kf := 3) kx_735 rfl in_X2 cl_X2 (by decide) hX.1 rfl dX2_keep_5 rfl ?_
  refine ks_aaldN (i := n) (b := b) (by decide) h42 rfl (by omega) (by decide) hbn dX2_keep_8 rfl ?_
  refine ks_astore_n dX2_keep_9 (by decide) rfl ?_
  refine ks_sub [(1, _), (0, _)] rfl ?_
  refine ks_aload_n dX2_keep_10 rfl rfl ?_
  refine ks_getf (T := TX2) (kf := 2) kx_733 rfl in_X2 cl_X2 (by decide) hX.1 rfl dX2_keep_11 rfl ?_
  refine ks_aload_n dX2_keep_14 rfl rfl ?_
  refine ks_callV (n := 0) (M' := mX0_bits) (c_bk_bits (d := d) F1) F1.1 cl_X0 rfl kx_1005 kx_1006 kx_1007 kx_29 kx_1008 (by decide +kernel) rfl (by decide) (Nat.le_of_ble_eq_true rfl) rfl dX2_keep_15 rfl (fun z1 T1 y1 => ?_)
  obtain ⟨rfl, hT1⟩ := y1
  obtain rfl := hT1.symm
  rw [bk_num (i := 72) (n := 4) eg (by omega), show ks_num (mg M) 72 4 = btB M from rfl]
  refine ks_callV (n := 1) (M' := mX9_take) (c_take (d := d) hTg bt32) hTg.1 cl_X9 rfl kx_1010 kx_917 kx_918 kx_27 kx_919 (by decide +kernel) rfl (by decide) (Nat.le_of_ble_eq_true rfl) rfl dX2_keep_18 rfl (fun z2 T2 y2 => ?_)
  obtain ⟨rfl, w2, Tg2⟩ := y2
  have X2 := hX.up w2 (by decide)
  have F2 := F1.up w2 (fun x hx => by rw [List.mem_singleton] at hx; omega)
  have h42b := w2.at h42 (by decide)
  have oq1 := oq.1
  have oq56 := oq.2.2.2.2.2.2.2.2.2
  have oq2 := w2.at oq1 (by rw [List.mem_singleton]; omega)
  refine ks_pop dX2_keep_21 rfl rfl ?_
  refine ks_aload_n dX2_keep_22 rfl rfl ?_
  refine ks_aload_n dX2_keep_23 rfl rfl ?_
  refine ks_getf (T := TX2) (kf := 0) kx_729 rfl in_X2 cl_X2 (by decide) X2.1 rfl dX2_keep_24 rfl ?_
  refine ks_aload_n dX2_keep_27 rfl rfl ?_
  refine ks_getf (T := TX0) (kf := 6) kx_952 rfl in_X0 cl_X0 (by decide) F2.1 rfl dX2_keep_28 rfl ?_
  rw [hDq]
  refine ks_aaldN (i := q - 1) (b := (bkN (B (q - 1)))) (by decide) h42b rfl (by omega) (by decide) (hbf2 (q - 1) (by omega)) dX2_keep_31 rfl ?_
  refine ks_getf (T := TX0) (kf := 8) kx_956 rfl in_X0 cl_X0 (by decide) oq2 rfl dX2_keep_32 rfl ?_
  refine ks_aload_n dX2_keep_35 rfl rfl ?_
  refine ks_getf (T := TX2) (kf := 2) kx_733 rfl in_X2 cl_X2 (by decide) X2.1 rfl dX2_keep_36 rfl ?_
  refine ks_callV (n := 0) (M' := mX9_work) (c_work (d := d) Tg2 (tg_num_lt _) hwk) Tg2.1 cl_X9 rfl kx_1011 kx_1012 kx_1013 kx_27 kx_1014 (by decide +kernel) rfl (by decide) (Nat.le_of_ble_eq_true rfl) rfl dX2_keep_39 rfl (fun z3 T3 y3 => ?_)
  obtain ⟨rfl, w3, Tg3⟩ := y3
  have X3 := X2.up w3 (by decide)
  have l3 : ∀ x ∈ ([46, 47] : List Nat), x < 56 := by decide
  have F3 := F2.up w3 (fun x hx => by have := l3 x hx; omega)
  have h42c := w3.at h42b (by decide)
  refine ks_laddN dX2_keep_42 rfl ?_
  refine ks_putf (T := TX0) (kf := 8) kx_956 rfl in_X0 tyX0_ok nmX0 cl_X0 (by decide) F3.1 (Nat.le_of_ble_eq_true rfl) rfl rfl rfl rfl dX2_keep_43 rfl ?_
  refine ks_aload_n dX2_keep_46 rfl rfl ?_
  refine ks_dup dX2_keep_47 rfl rfl ?_
  refine ks_getf (T := TX2) (kf := 3) kx_735 rfl in_X2 cl_X2 (by decide) ((ks_set_ne _ _ (by omega)).trans X3.1) rfl dX2_keep_48 rfl ?_
  refine ks_iconst (x := nI 1) dX2_keep_51 (by decide) rfl ?_
  refine ks_addN dX2_keep_52 rfl ?_
  refine ks_putf (T := TX2) (kf := 3) kx_735 rfl in_X2 tyX2_ok nmX2 cl_X2 (by decide) ((ks_set_ne _ _ (by omega)).trans X3.1) (Nat.le_of_ble_eq_true rfl) rfl rfl rfl rfl dX2_keep_53 rfl ?_
  refine ks_aload_n dX2_keep_56 rfl rfl ?_
  refine ks_getf (T := TX2) (kf := 3) kx_735 rfl in_X2 cl_X2 (by decide) (ks_set_same _ _ _) rfl dX2_keep_57 rfl ?_
  refine ks_iconst (x := nI 1) dX2_keep_60 (by decide) rfl ?_
  refine ks_subN (by omega) dX2_keep_61 rfl ?_
  refine ks_ti (y := nI (n)) rfl ?_
  refine ks_iret rfl dX2_keep_62 ?_
  have T3' : chT T3 n B := (hT.up w2).up w3
  obtain ⟨S4, hS4⟩ : ∃ S4, S4 = ks_set T3 b (.inr (3, [.ref (b + 1), .ref (b + 2), .ref (b + 3), .ref (b + 4), .int (nI M.length), .int (nI (mg M 80)), .int (nI q - 1), .int (nI h), .long (lN (bkW (B (q - 1)) + 2 ^ 256 / (tg_num (btB M) + 1))), .int (ks_bo false), .null])) := ⟨_, rfl⟩
  have w4 : ks_up T3 S4 [b] := by rw [hS4]; exact ks_up_set _ _ List.mem_cons_self
  have X4 := X3.ex2 T3' w4.ex hsA (fun x hx => Or.inr (by rw [List.mem_singleton] at hx; omega))
  have nb : ∀ x, x < 56 → x ∉ [b] := fun x h hx => by rw [List.mem_singleton] at hx; omega
  have F4 : bkX S4 b (nI M.length) (nI (mg M 80)) (nI q - 1) (nI h) (lN (bkW (B (q - 1)) + 2 ^ 256 / (tg_num (btB M) + 1))) false .null g1 f2 g3 g4 := by
    obtain ⟨a1, a2, a3, a4, a5, a6⟩ := F3
    have nn : ∀ j, 0 < j → b + j ∉ [b] := fun j hj hx => by rw [List.mem_singleton] at hx; omega
    exact ⟨by rw [hS4]; exact ks_set_same _ _ _, w4.at a2 (nn 1 (by decide)), w4.at a3 (nn 2 (by decide)), w4.at a4 (nn 3 (by decide)), w4.at a5 (nn 4 (by decide)), a6⟩
  have h42d := w4.at h42c (nb _ (by decide))
  have Tg4 := Tg3.up w4 (nb _ (by decide)) (nb _ (by decide)) (fun h => absurd h (nb _ (by decide))) (fun h => absurd h (nb _ (by decide)))
  obtain ⟨S5, hS5⟩ : ∃ S5, S5 = ks_set S4 41 (chO (n + 1) best cc tk) := ⟨_, rfl⟩
  have w5 : ks_up S4 S5 [41] := by rw [hS5]; exact ks_up_set _ _ List.mem_cons_self
  have F5 := F4.up w5 (fun x hx => by rw [List.mem_singleton] at hx; omega)
  have h42e := w5.at h42d (by decide)
  have Tg5 := Tg4.up w5 (by decide) (by decide) (fun h => absurd h (by decide)) (fun h => absurd h (by decide))
  have X5 : chX S5 (n + 1) best cc tk (va_up B n (b, M, q, h, bkW (B (q - 1)) + 2 ^ 256 / (tg_num (btB M) + 1), false, none)) := by
    obtain ⟨h1, -, h4, h5⟩ := X4
    refine ⟨by rw [hS5]; exact ks_set_same _ _ _, ⟨bf, h42e, fun i hi => ?_⟩, fun i hi => ?_, by omega⟩
    · by_cases e : i = n
      · subst e; rw [va_up_self]; exact hbn
      · rw [va_up_ne _ _ e]; exact hbf2 i (by omega)
    · by_cases e : i = n
      · subst e; rw [va_up_self]; exact bkK.mk F5 le eg bl hst hid hhs
      · rw [va_up_ne _ _ e, hS5]; exact (h4 i (by omega)).set (by decide)
  refine (?_ : _ ∧ _)
  have e5 : ∀ S9 : ks_S, S9 = S5 → (some (Value.int (nI n)) = some (Value.int (nI n)) ∧ ks_up S S9 [45, 46, 47, 41, b] ∧ chX S9 (n + 1) best cc tk (va_up B n (b, M, q, h, bkW (B (q - 1)) + 2 ^ 256 / (tg_num (btB M) + 1), false, none)) ∧ chF S9 (n + 1) (va_up B n (b, M, q, h, bkW (B (q - 1)) + 2 ^ 256 / (tg_num (btB M) + 1), false, none)) none ∧ ∃ N, tg_ok S9 N) := by
    intro S9 h9
    subst h9
    exact ⟨rfl, (((w2.mono (by intro x hx; rw [List.mem_singleton] at hx; rw [hx]; exact List.mem_cons_self)).trans (w3.mono (by intro x hx; simp only [List.mem_cons, List.not_mem_nil, or_false] at hx ⊢; omega))).trans (w4.mono (by intro x hx; simp only [List.mem_cons, List.not_mem_nil, or_false] at hx ⊢; omega))).trans (w5.mono (by intro x hx; simp only [List.mem_cons, List.not_mem_nil, or_false] at hx ⊢; omega)), X5, ⟨⟨bf, h42e, hbl _ (by omega), fun i hi => hbl i (by omega)⟩, fun b h => by cases h⟩, _, Tg5⟩
  exact e5 _ (by rw [hS5, hS4]; rfl)
