/-! THE REFERENCE: an element as a number -/
theorem ks_num_top {g g' : Nat → Nat} : ∀ (n i : Nat), 0 < n → (∀ j, j + 1 < n → g' (i + j) = g (i + j)) → ks_num g' i n + g (i + n - 1) * 256 ^ (n - 1) = ks_num g i n + g' (i + n - 1) * 256 ^ (n - 1)
  | 0, _, h, _ => absurd h (Nat.lt_irrefl _)
  | 1, i, _, _ => by
    show g' i + 256 * 0 + _ = g i + 256 * 0 + _
    rw [show i + 1 - 1 = i by omega, Nat.sub_self, Nat.pow_zero]
    omega
  | n + 2, i, _, h => by
    have h1 := ks_num_top (g := g) (g' := g') (n + 1) (i + 1) (by omega) (fun j hj => by rw [Nat.add_assoc, Nat.add_comm 1 j]; exact h (j + 1) (by omega))
    have h0 := h 0 (by omega)
    show g' i + 256 * ks_num g' (i + 1) (n + 1) + _ = g i + 256 * ks_num g (i + 1) (n + 1) + _
    rw [Nat.add_zero] at h0
    rw [show i + 1 + (n + 1) - 1 = i + (n + 2) - 1 by omega, show n + 1 - 1 = n by omega] at h1
    rw [show n + 2 - 1 = n + 1 by omega, Nat.pow_succ, h0]
    have e1 : ∀ a, a * (256 ^ n * 256) = 256 * (a * 256 ^ n) := fun a => by rw [← Nat.mul_assoc, Nat.mul_comm]
    rw [e1, e1]
    omega
/-- an element of at most five bytes, by its top byte -/
theorem numV_at {g : Nat → Nat} (kg : kO g) {n : Nat} (h0 : 0 < n) : numV (bytL g 0 n) = if 128 ≤ g (n - 1) then -((ks_num (va_up g (n - 1) (g (n - 1) % 128)) 0 n : Nat) : Int) else ((ks_num (va_up g (n - 1) (g (n - 1) % 128)) 0 n : Nat) : Int) := by
  have h1 := ks_num_top (g := g) (g' := va_up g (n - 1) (g (n - 1) % 128)) n 0 h0 (fun j hj => va_up_ne _ _ (by omega))
  rw [Nat.zero_add, va_up_self] at h1
  have kt := kg (n - 1)
  have e256 : (2 : Nat) ^ (8 * n - 1) = 128 * 256 ^ (n - 1) := by
    rw [show (256 : Nat) = 2 ^ 8 from rfl, show (128 : Nat) = 2 ^ 7 from rfl, ← Nat.pow_mul, ← Nat.pow_add]
    congr 1
    omega
  have lo : ks_num (va_up g (n - 1) (g (n - 1) % 128)) 0 n < 128 * 256 ^ (n - 1) := by
    obtain ⟨m, rfl⟩ : ∃ m, n = m + 1 := ⟨n - 1, by omega⟩
    rw [Nat.add_sub_cancel]
    have h2 := ks_num_top (g := fun j => if j = m then 0 else g j) (g' := va_up g m (g m % 128)) (m + 1) 0 (by omega) (fun j hj => by rw [va_up_ne _ _ (by omega), if_neg (by omega)])
    have h3 : ks_num (fun j => if j = m then 0 else g j) 0 (m + 1) < 256 ^ m := by
      rw [ks_num_dg]
      have : dg 256 (fun k => if 0 + k = m then 0 else g (0 + k)) (m + 1) = dg 256 (fun k => if 0 + k = m then 0 else g (0 + k)) m := by rw [dg_s, Nat.zero_add, if_pos rfl, Nat.zero_mul, Nat.add_zero]
      rw [this]
      exact dg_lt (fun k hk => by rw [Nat.zero_add]; split; decide; exact kg k)
    rw [Nat.zero_add, Nat.add_sub_cancel, if_pos rfl, va_up_self, Nat.zero_mul, Nat.add_zero] at h2
    rw [h2]
    have h4 : g m % 128 * 256 ^ m ≤ 127 * 256 ^ m := Nat.mul_le_mul_right _ (by omega)
    omega
  unfold numV
  rw [leV_num, bytL_len, e256]
  by_cases c : 128 ≤ g (n - 1)
  · rw [if_pos c]
    have e1 : g (n - 1) * 256 ^ (n - 1) = 128 * 256 ^ (n - 1) + g (n - 1) % 128 * 256 ^ (n - 1) := by rw [← Nat.add_mul]; congr 1; omega
    have e2 : ks_num g 0 n = ks_num (va_up g (n - 1) (g (n - 1) % 128)) 0 n + 128 * 256 ^ (n - 1) := by omega
    rw [e2, if_neg (by omega), Nat.add_sub_cancel]
  · rw [if_neg c]
    rw [Nat.mod_eq_of_lt (by omega)] at h1 lo ⊢
    have e2 : ks_num g 0 n = ks_num (va_up g (n - 1) (g (n - 1))) 0 n := by omega
    rw [e2, if_pos lo]
theorem and127 : ∀ c, c < 256 → sb_b c &&& nI 127 = nI (c % 128) := by decide +kernel
set_option maxRecDepth 100000 in
set_option maxHeartbeats 800000 in
theorem c_rs_numberAt {l : Launch} {G : ks_G} {d : Nat} {S : ks_S} {V : Nat → Value} {F : Nat} {xs ys : List (List Nat)} {vs : Vs} (hO : S.2.2 290 = some (rfE V)) (hK : rsQ S V F xs ys vs) {k mo : Nat} (hk : k < xs.length) (hmo : mo ≤ 5) : ks_P l G yX16_numberAt mX16_numberAt d [.ref 290, .int (nI k), .int (nI mo)] S (fun z S' => z = some (.long (iL (if (xs.getD k []).length ≤ mo then numV (xs.getD k []) else 0))) ∧ ((xs.getD k []).length ≤ mo → S' = S) ∧ (¬ (xs.getD k []).length ≤ mo → S' = ks_set S 290 (rfE (va_up V 74 (.int (ks_bo true)))))) := by
  obtain ⟨T, sz, oz, vz, hK', rfl, gS, kS, h367⟩ := hK
  have hK := hK'
  obtain ⟨hT, ⟨h362, h364, h366⟩, ⟨v67, v70, v73⟩, ⟨bx, by9, bv⟩, hx, hys, hvs, hU⟩ := id hK
  obtain ⟨r, g, a1, a2, a3, a4, a5⟩ := hx (xs.length - 1 - k) (by omega)
  rw [show xs.length - 1 - (xs.length - 1 - k) = k by omega] at a5
  have al : (xs.getD k []).length = sz (xs.length - 1 - k) := by rw [a5, bytL_len]
  rw [al, a5]
  obtain ⟨i, ei⟩ : ∃ i, i = xs.length - 1 - k := ⟨_, rfl⟩
  rw [← ei] at a1 a4 ⊢
  have i1 : i < xs.length := by omega
  obtain ⟨n, en⟩ : ∃ n, n = sz i := ⟨_, rfl⟩
  rw [← en] at a4 ⊢
  refine ks_of (by decide) rfl rfl (Nat.le_of_ble_eq_true rfl) ?_
  show ks_X l G mX16_numberAt d 0 [(0, .ref 290), (1, .int (nI k)), (2, .int (nI mo))] [] S _
  refine ks_aload_n dX16_numberAt_0 rfl rfl ?_
  refine ks_getf (T := TX16) (kf := 67) kx_2435 rfl in_X16 cl_X16 (by decide) hO rfl dX16_numberAt_1 rfl ?_
  refine ks_tv v67 ?_
  refine ks_iconst (x := nI 1) dX16_numberAt_4 (by decide) rfl ?_
  refine ks_subN (by omega) dX16_numberAt_5 rfl ?_
  refine ks_iload_n dX16_numberAt_6 rfl rfl ?_
  refine ks_subN (by omega) dX16_numberAt_7 rfl ?_
  rw [← ei]
  refine ks_istore_n dX16_numberAt_8 (by decide) rfl ?_
  refine ks_sub [(3, _), (0, _), (1, _), (2, _)] rfl ?_
  refine ks_aload_n dX16_numberAt_9 rfl rfl ?_
  refine ks_getf (T := TX16) (kf := 66) kx_2434 rfl in_X16 cl_X16 (by decide) hO rfl dX16_numberAt_10 rfl ?_
  refine ks_iload_n dX16_numberAt_13 rfl rfl ?_
  refine ks_ialdN (i := i) h362 rfl (by omega) (by decide) dX16_numberAt_14 rfl ?_
  rw [← en]
  refine ks_istore dX16_numberAt_15 (by decide) rfl ?_
  refine ks_sub [(4, _), (0, _), (1, _), (2, _), (3, _)] rfl ?_
  refine ks_iload dX16_numberAt_17 rfl rfl ?_
  refine ks_iload_n dX16_numberAt_19 rfl rfl ?_
  refine ks_icmp_leN (tgt := 30) (by omega) (by omega) dX16_numberAt_20 (by decide) rfl (fun h1 => ?_) (fun h1 => ?_)
  · rw [if_pos h1]
    refine ks_iload dX16_numberAt_30 rfl rfl ?_
    refine ks_if_neN (tgt := 37) (by omega) dX16_numberAt_32 (by decide) rfl (fun h2 => ?_) (fun h2 => ?_)
    · rw [numV_at a3 (by omega)]
      obtain ⟨g', eg⟩ : ∃ g', g' = va_up g (n - 1) (g (n - 1) % 128) := ⟨_, rfl⟩
      rw [← eg]
      have kg' : kO g' := by rw [eg]; exact kO_up a3 (by omega)
      have top := a3 (n - 1)
      have loop : ∀ (q : Nat), q ≤ n → ks_X l G mX16_numberAt d 46 [(0, .ref 290), (3, .int (nI i)), (4, .int (nI n)), (5, .long (lN (ks_num g' q (n - q)))), (7, .int (nI q - 1))] [] S (fun z S' => z = some (.long (iL (if 128 ≤ g (n - 1) then -((ks_num g' 0 n : Nat) : Int) else ((ks_num g' 0 n : Nat) : Int)))) ∧ (n ≤ mo → S' = S) ∧ (¬ n ≤ mo → S' = ks_set S 290 (rfE (va_up V 74 (.int (ks_bo true)))))) := by
        intro q
        induction q with
        | zero =>
          intro hq
          refine ks_iload dX16_numberAt_46 rfl rfl ?_
          refine ks_if_ltD (tgt := 103) (by omega) dX16_numberAt_48 (by decide) rfl (fun _ => ?_) (fun h => absurd rfl h)
          rw [Nat.sub_zero]
          refine ks_aload_n dX16_numberAt_103 rfl rfl ?_
          refine ks_getf (T := TX16) (kf := 65) kx_2433 rfl in_X16 cl_X16 (by decide) hO rfl dX16_numberAt_104 rfl ?_
          refine ks_iload_n dX16_numberAt_107 rfl rfl ?_
          refine ks_aaldN (i := i) (b := r) (by decide) (hT.1 0 (by decide)) rfl (by omega) (by decide) a1 dX16_numberAt_108 rfl ?_
          refine ks_iload dX16_numberAt_109 rfl rfl ?_
          refine ks_iconst (x := nI 1) dX16_numberAt_111 (by decide) rfl ?_
          refine ks_subN (by omega) dX16_numberAt_112 rfl ?_
          refine ks_baldB (i := n - 1) a2 rfl (by omega) (by decide) dX16_numberAt_113 rfl ?_
          refine ks_if_geY (tgt := 123) (a3 _) dX16_numberAt_114 (by decide) rfl (fun h4 => ?_) (fun h4 => ?_)
          · refine ks_lload dX16_numberAt_123 rfl rfl ?_
            refine ks_lret rfl dX16_numberAt_125 ?_
            rw [if_neg h4]
            exact ⟨rfl, fun _ => rfl, fun h => absurd h1 h⟩
          · refine ks_lload dX16_numberAt_117 rfl rfl ?_
            refine ks_lneg dX16_numberAt_119 rfl ?_
            refine ks_goto (tgt := 125) dX16_numberAt_120 (by decide) ?_
            refine ks_lret rfl dX16_numberAt_125 ?_
            rw [if_pos (by omega), ← iL_neg]
            exact ⟨rfl, fun _ => rfl, fun h => absurd h1 h⟩
        | succ q ih =>
          intro hq
          rw [nI_D (by omega : 0 < q + 1), Nat.add_sub_cancel]
          have es : ks_num g' q (n - q) = g' q + 256 * ks_num g' (q + 1) (n - (q + 1)) := by rw [show n - q = (n - (q + 1)) + 1 by omega]; rfl
          have sl : ks_num g' (q + 1) (n - (q + 1)) < 256 ^ 4 := Nat.lt_of_lt_of_le (ks_num_lt kg' _ _) (Nat.pow_le_pow_right (by decide) (by omega))
          obtain ⟨s, hs⟩ : ∃ s, s = ks_num g' (q + 1) (n - (q + 1)) := ⟨_, rfl⟩
          rw [← hs] at es sl ⊢
          have gq := kg' q
          refine ks_iload dX16_numberAt_46 rfl rfl ?_
          refine ks_if_ltN (tgt := 103) (by omega) dX16_numberAt_48 (by decide) rfl ?_
          refine ks_lload dX16_numberAt_51 rfl rfl ?_
          refine ks_bipush (x := nI 8) dX16_numberAt_53 (by decide) rfl ?_
          refine ks_lshlN (k := 8) (by decide) dX16_numberAt_55 rfl ?_
          refine ks_iload dX16_numberAt_56 rfl rfl ?_
          refine ks_iload dX16_numberAt_58 rfl rfl ?_
          refine ks_iconst (x := nI 1) dX16_numberAt_60 (by decide) rfl ?_
          refine ks_subN (by omega) dX16_numberAt_61 rfl ?_
          refine ks_icmp_neN (tgt := 80) (by omega) (by omega) dX16_numberAt_62 (by decide) rfl (fun h4 => ?_) (fun h4 => ?_)
          · have e4 : g' q = g q := by rw [eg]; exact va_up_ne _ _ (by omega)
            refine ks_aload_n dX16_numberAt_80 rfl rfl ?_
            refine ks_getf (T := TX16) (kf := 65) kx_2433 rfl in_X16 cl_X16 (by decide) hO rfl dX16_numberAt_81 rfl ?_
            refine ks_iload_n dX16_numberAt_84 rfl rfl ?_
            refine ks_aaldN (i := i) (b := r) (by decide) (hT.1 0 (by decide)) rfl (by omega) (by decide) a1 dX16_numberAt_85 rfl ?_
            refine ks_iload dX16_numberAt_86 rfl rfl ?_
            refine ks_baldB (i := q) a2 rfl (by omega) (by decide) dX16_numberAt_88 rfl ?_
            refine ks_sipush (x := nI 255) dX16_numberAt_89 (by decide) rfl ?_
            refine ks_andB (a3 _) dX16_numberAt_92 rfl ?_
            have hy92 : g q < 256 := (a3 _)
            rw [← e4]
            refine ks_i2lN (by omega) dX16_numberAt_93 rfl ?_
            refine ks_lorN (a := s) (k := 8) (p := 2 ^ 8) rfl (by omega) (by omega) dX16_numberAt_94 rfl ?_
            refine ks_lstore dX16_numberAt_95 (by decide) rfl ?_
            refine ks_sub [(5, _), (0, _), (3, _), (4, _), (7, _)] rfl ?_
            refine ks_incD dX16_numberAt_97 rfl (by decide) (by decide) rfl ?_
            refine ks_sub [(7, _), (0, _), (3, _), (4, _), (5, _)] rfl ?_
            refine ks_goto (tgt := 46) dX16_numberAt_100 (by decide) ?_
            rw [show s * 2 ^ 8 + g' q = ks_num g' q (n - q) by rw [es]; omega]
            exact ks_sub [(0, _), (3, _), (4, _), (5, _), (7, _)] rfl (ih (by omega))
          · have e4 : g' q = g q % 128 := by rw [eg, show q = n - 1 by omega, va_up_self]
            have gq2 := a3 q
            refine ks_aload_n dX16_numberAt_65 rfl rfl ?_
            refine ks_getf (T := TX16) (kf := 65) kx_2433 rfl in_X16 cl_X16 (by decide) hO rfl dX16_numberAt_66 rfl ?_
            refine ks_iload_n dX16_numberAt_69 rfl rfl ?_
            refine ks_aaldN (i := i) (b := r) (by decide) (hT.1 0 (by decide)) rfl (by omega) (by decide) a1 dX16_numberAt_70 rfl ?_
            refine ks_iload dX16_numberAt_71 rfl rfl ?_
            refine ks_baldB (i := q) a2 rfl (by omega) (by decide) dX16_numberAt_73 rfl ?_
            refine ks_bipush (x := nI 127) dX16_numberAt_74 (by decide) rfl ?_
            refine ks_iand dX16_numberAt_76 rfl ?_
            refine ks_ti (y := nI (g' q)) (by rw [e4]; exact and127 _ gq2) ?_
            refine ks_goto (tgt := 93) dX16_numberAt_77 (by decide) ?_
            refine ks_i2lN (by omega) dX16_numberAt_93 rfl ?_
            refine ks_lorN (a := s) (k := 8) (p := 2 ^ 8) rfl (by omega) (by omega) dX16_numberAt_94 rfl ?_
            refine ks_lstore dX16_numberAt_95 (by decide) rfl ?_
            refine ks_sub [(5, _), (0, _), (3, _), (4, _), (7, _)] rfl ?_
            refine ks_incD dX16_numberAt_97 rfl (by decide) (by decide) rfl ?_
            refine ks_sub [(7, _), (0, _), (3, _), (4, _), (5, _)] rfl ?_
            refine ks_goto (tgt := 46) dX16_numberAt_100 (by decide) ?_
            rw [show s * 2 ^ 8 + g' q = ks_num g' q (n - q) by rw [es]; omega]
            exact ks_sub [(0, _), (3, _), (4, _), (5, _), (7, _)] rfl (ih (by omega))
      refine ks_lconst (x := lN 0) dX16_numberAt_37 (by decide) rfl ?_
      refine ks_lstore dX16_numberAt_38 (by decide) rfl ?_
      refine ks_sub [(5, _), (0, _), (1, _), (2, _), (3, _), (4, _)] rfl ?_
      refine ks_iload dX16_numberAt_40 rfl rfl ?_
      refine ks_iconst (x := nI 1) dX16_numberAt_42 (by decide) rfl ?_
      refine ks_subN (by omega) dX16_numberAt_43 rfl ?_
      refine ks_istore dX16_numberAt_44 (by decide) rfl ?_
      refine ks_sub [(7, _), (0, _), (1, _), (2, _), (3, _), (4, _), (5, _)] rfl ?_
      exact ks_sub [(0, _), (3, _), (4, _), (5, .long (lN (ks_num g' n (n - n)))), (7, .int (nI n - 1))] (by rw [Nat.sub_self, nI_D (by omega : 0 < n)]; rfl) (loop n (Nat.le_refl _))
    · refine ks_lconst (x := lN 0) dX16_numberAt_35 (by decide) rfl ?_
      refine ks_lret rfl dX16_numberAt_36 ?_
      rw [h2, show numV (bytL g 0 0) = 0 from rfl]
      exact ⟨rfl, fun _ => rfl, fun h => absurd (Nat.zero_le _) h⟩
  · refine ks_aload_n dX16_numberAt_23 rfl rfl ?_
    refine ks_iconst (x := nI 1) dX16_numberAt_24 (by decide) rfl ?_
    refine ks_putf (T := TX16) (kf := 74) kx_2442 rfl in_X16 tyX16_ok nmX16 cl_X16 (by decide) hO (Nat.le_of_ble_eq_true rfl) rfl rfl rfl rfl dX16_numberAt_25 rfl ?_
    refine md_put mdp_74 ?_
    refine ks_lconst (x := lN 0) dX16_numberAt_28 (by decide) rfl ?_
    refine ks_lret rfl dX16_numberAt_29 ?_
    rw [if_neg (by omega)]
    exact ⟨rfl, fun h => by omega, fun _ => rfl⟩
