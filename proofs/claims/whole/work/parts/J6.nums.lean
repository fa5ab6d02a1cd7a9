/-! THE REFERENCE: numbers on the stack -/
theorem rsK.up {S S1 : ks_S} {V : Nat → Value} {T : Nat → Nat → Option Nat} {sz oz vz : Nat → Nat} {xs ys : List (List Nat)} {vs : Vs} {L : List Nat} (h : rsK S V T sz oz vz xs ys vs) (hu : ks_up S S1 L) (hL : ∀ x ∈ L, x < 361 ∨ 366 < x) (h2 : ∀ x ∈ L, ∃ e, S.2.2 x = some e ∧ ∀ g, e ≠ kB 520 g) : rsK S1 V T sz oz vz xs ys vs := by
  obtain ⟨h1, ⟨h3, h4, h5⟩, hv, hl, h6, h7, h8, h9⟩ := h
  have nn : ∀ a, 361 ≤ a → a ≤ 366 → a ∉ L := fun a b c hm => by have := hL a hm; omega
  have ke : ∀ (r : Nat) (g : Nat → Nat), S.2.2 r = some (kB 520 g) → S1.2.2 r = some (kB 520 g) := fun r g hr => hu.at hr (fun hm => by obtain ⟨e, e1, e2⟩ := h2 r hm; rw [hr] at e1; exact e2 g (Option.some.inj e1).symm)
  exact ⟨h1.up hu ⟨nn _ (by decide) (by decide), nn _ (by decide) (by decide), nn _ (by decide) (by decide)⟩ h2, ⟨hu.at h3 (nn _ (by decide) (by decide)), hu.at h4 (nn _ (by decide) (by decide)), hu.at h5 (nn _ (by decide) (by decide))⟩, hv, hl, h6.keep (fun _ _ => ⟨rfl, rfl⟩) (fun i r g _ _ hr => ke r g hr), h7.keep (fun _ _ => ⟨rfl, rfl⟩) (fun i r g _ _ hr => ke r g hr), h8.keep (fun _ _ => ⟨rfl, rfl⟩) (fun i r g _ _ hr => ke r g hr), h9⟩
theorem neg_by : ∀ c, c < 128 → ks_by ((sb_b c ||| (-128)).toInt8.toInt32) = c + 128 := by decide +kernel
theorem pn_div (x n : Nat) : x / 256 ^ n / 2 ^ 8 = x / 256 ^ (n + 1) := by rw [Nat.div_div_eq_div_mul, show (256 : Nat) ^ (n + 1) = 256 ^ n * 2 ^ 8 from rfl]
theorem pn_lt {x n : Nat} (h : x < 256 ^ 5) (h1 : x / 256 ^ n ≠ 0) : n < 5 := by
  by_cases c : n < 5
  · exact c
  · exact absurd (Nat.div_eq_of_lt (Nat.lt_of_lt_of_le h (Nat.pow_le_pow_right (by decide) (by omega)))) h1
set_option maxRecDepth 100000 in
set_option maxHeartbeats 1600000 in
theorem c_rs_pushNumber {l : Launch} {G : ks_G} {d : Nat} {S : ks_S} {V : Nat → Value} {F : Nat} {xs ys : List (List Nat)} {vs : Vs} (hO : S.2.2 290 = some (rfE V)) (hK : rsQ S V F xs ys vs) {v : Int} (hv : v.natAbs < 256 ^ 5) : ks_P l G yX16_pushNumber mX16_pushNumber (d + 2) [.ref 290, .long (iL v)] S (fun z S' => z = none ∧ stK S S' V F (xs.length ≤ 1000) xs (numI v :: xs) ys vs) := by
  obtain ⟨T, sz, oz, vz, hK', rfl, gS, kS, h367⟩ := hK
  have hK := hK'
  obtain ⟨hT, ⟨h362, h364, h366⟩, ⟨v67, v70, v73⟩, ⟨bx, by9, bv⟩, hx, hys, hvs, hU⟩ := id hK
  have i0 : iL v < lN 0 ↔ v < 0 := iL_lt (a := v) (b := 0) (by omega) (by omega) (by decide) (by decide)
  have i1 : lN 0 ≤ iL v ↔ 0 ≤ v := iL_le (a := 0) (b := v) (by decide) (by decide) (by omega) (by omega)
  obtain ⟨x, ex⟩ : ∃ x, x = v.natAbs := ⟨_, rfl⟩
  rw [← ex] at hv
  have last : ∀ (S1 : ks_S) (g : Nat → Nat) (n : Nat), ks_up S S1 [367] → S1.2.2 367 = some (kB 9 g) → kO g → n ≤ 6 → nsN x = n → (∀ j, j < n → g j = x / 256 ^ j % 256 + (if decide (v < 0) = true ∧ j + 1 = n then 128 else 0)) → ks_X l G mX16_pushNumber (d + 2) 92 [(0, .ref 290), (1, .long (iL v)), (5, .int (nI n))] [] S1 (fun z S' => z = none ∧ stK S S' V (frT T) (xs.length ≤ 1000) xs (numI v :: xs) ys vs) := by
    intro S1 g n hu e1 kg hn6 hn hg
    have o1 := hu.at hO (by decide)
    have K1 := hK.up hu (by decide) (fun x hx => by rw [List.mem_singleton] at hx; subst hx; exact ⟨_, h367, fun g h => absurd (kB_lq h) (by decide)⟩)
    have ne : T 0 xs.length ≠ some 367 := fun h => by
      obtain ⟨-, g9, -, h9⟩ := hT.2.2.1 _ _ _ h
      rw [h367] at h9
      exact absurd (kB_lq (Option.some.inj h9)) (by decide)
    refine ks_aload_n dX16_pushNumber_92 rfl rfl ?_
    refine ks_aload_n dX16_pushNumber_93 rfl rfl ?_
    refine ks_getf (T := TX16) (kf := 75) kx_2443 rfl in_X16 cl_X16 (by decide) o1 rfl dX16_pushNumber_94 rfl ?_
    refine ks_iconst (x := nI 0) dX16_pushNumber_97 (by decide) rfl ?_
    refine ks_iload dX16_pushNumber_98 rfl rfl ?_
    refine ks_callV (n := 3) (M' := mX16_push) (c_rs_push (d := d) o1 K1 (y := 367) (at_ := 0) (n := n) e1 kg (by omega) (by decide) ne) o1 cl_X16 rfl kx_2177 kx_2179 kxp_90 kx_30 kx_2180 (by decide +kernel) rfl (by decide) (Nat.le_of_ble_eq_true rfl) rfl dX16_pushNumber_100 rfl (fun z2 S2 y2 => ?_)
    obtain ⟨rfl, T2, sz2, V2, sf, o2, hv2, hc⟩ := y2
    refine ks_ret rfl dX16_pushNumber_103 ?_
    have el : bytL g 0 n = numI v := by
      unfold numI numS bytL
      rw [← ex, hn]
      refine List.map_congr_left (fun j hj => ?_)
      rw [Nat.zero_add]
      exact hg j (List.mem_range.mp hj)
    have fsf : sfK LSk S S2 (frT T) (frT T2) := (sfK.of (hu.mono (by decide))).trans (sf.mono (by decide))
    have r2 : S2.2.2 367 = some (kB 9 g) := sf.2 367 _ e1 (by decide) (fun g h => absurd (kB_lq h) (by decide))
    refine ⟨rfl, V2, frT T2, ⟨fsf, o2, fun k h1 _ h3 => hv2 k h1 h3⟩, ?_⟩
    rcases hc with ⟨-, c1, c2, -, c3⟩ | ⟨c1, c2, rfl, c3⟩
    · refine Or.inl ⟨c1, c2, T2, sz2, oz, vz, ?_, rfl, g, kg, r2⟩
      rw [← el]; exact c3
    · exact Or.inr ⟨by omega, c2, T2, sz, oz, vz, c3, rfl, g, kg, r2⟩
  have sign : ∀ (S1 : ks_S) (g : Nat → Nat) (n : Nat), ks_up S S1 [367] → S1.2.2 367 = some (kB 9 g) → kO g → n ≤ 6 → nsN x = n → (x ≠ 0 → 0 < n ∧ g (n - 1) < 128) → (∀ j, j < n → g j = x / 256 ^ j % 256) → ks_X l G mX16_pushNumber (d + 2) 71 [(0, .ref 290), (1, .long (iL v)), (5, .int (nI n))] [] S1 (fun z S' => z = none ∧ stK S S' V (frT T) (xs.length ≤ 1000) xs (numI v :: xs) ys vs) := by
    intro S1 g n hu e1 kg hn6 hn htop hg
    have o1 := hu.at hO (by decide)
    refine ks_lload_n dX16_pushNumber_71 rfl rfl ?_
    refine ks_lconst (x := lN 0) dX16_pushNumber_72 (by decide) rfl ?_
    refine ks_lif_ge (tgt := 92) dX16_pushNumber_73 rfl dX16_pushNumber_74 (by decide) rfl (fun h1 => ?_) (fun h1 => ?_)
    · have v0 := i1.mp h1
      exact last S1 g n hu e1 kg hn6 hn (fun j hj => by rw [hg j hj, if_neg (fun h => absurd (of_decide_eq_true h.1) (by omega))]; rfl)
    · have v0 : v < 0 := Int.not_le.mp (fun h => h1 (i1.mpr h))
      have ht := htop (by omega)
      refine ks_aload_n dX16_pushNumber_77 rfl rfl ?_
      refine ks_getf (T := TX16) (kf := 75) kx_2443 rfl in_X16 cl_X16 (by decide) o1 rfl dX16_pushNumber_78 rfl ?_
      refine ks_iload dX16_pushNumber_81 rfl rfl ?_
      refine ks_iconst (x := nI 1) dX16_pushNumber_83 (by decide) rfl ?_
      refine ks_subN (by omega) dX16_pushNumber_84 rfl ?_
      refine ks_dup2_11 dX16_pushNumber_85 rfl rfl rfl ?_
      refine ks_baldB (i := n - 1) e1 rfl (by omega) (by decide) dX16_pushNumber_86 rfl ?_
      refine ks_bipush (x := (-128)) dX16_pushNumber_87 (by decide) rfl ?_
      refine ks_ior dX16_pushNumber_89 rfl ?_
      refine ks_i2b dX16_pushNumber_90 rfl ?_
      refine ks_bastB (i := n - 1) (c := g (n - 1) + 128) e1 rfl (by omega) (by decide) (neg_by _ ht.2) dX16_pushNumber_91 rfl ?_
      refine last _ (va_up g (n - 1) (g (n - 1) + 128)) n (hu.trans (ks_up_set _ _ (by decide))) (ks_set_same _ _ _) (kO_up kg (by omega)) hn6 hn (fun j hj => ?_)
      by_cases e : j = n - 1
      · subst e; rw [va_up_self, hg _ (by omega), if_pos ⟨decide_eq_true v0, by omega⟩]
      · rw [va_up_ne _ _ e, hg j hj, if_neg (fun h => e (by omega))]; rfl
  have loop : ∀ (u n : Nat) (S1 : ks_S) (g : Nat → Nat), n + u = 5 → ks_up S S1 [367] → S1.2.2 367 = some (kB 9 g) → kO g → (n = 0 ∨ x / 256 ^ (n - 1) ≠ 0) → (∀ j, j < n → g j = x / 256 ^ j % 256) → ks_X l G mX16_pushNumber (d + 2) 16 [(0, .ref 290), (1, .long (iL v)), (3, .long (lN (x / 256 ^ n))), (5, .int (nI n))] [] S1 (fun z S' => z = none ∧ stK S S' V (frT T) (xs.length ≤ 1000) xs (numI v :: xs) ys vs) := by
    intro u
    induction u with
    | zero =>
      intro n S1 g hn hu e1 kg hz hg
      have o1 := hu.at hO (by decide)
      have xb : x / 256 ^ n ≤ x := Nat.div_le_self _ _
      have x0 : x / 256 ^ n = 0 := Nat.div_eq_of_lt (by rw [show n = 5 by omega]; exact hv)
      refine ks_lload_n dX16_pushNumber_16 rfl rfl ?_
      refine ks_lconst (x := lN 0) dX16_pushNumber_17 (by decide) rfl ?_
      refine ks_lif_eqN (tgt := 43) (by omega) (by decide) dX16_pushNumber_18 rfl dX16_pushNumber_19 (by decide) rfl (fun h1 => ?_) (fun h1 => ?_)
      · have tl : tg_len x 8 = n := by
          refine tg_len_is ?_ ?_ (by omega)
          · exact Nat.lt_of_div_eq_zero (Nat.pow_pos (by decide)) h1
          · rcases hz with h | h
            · exact Or.inl h
            · refine Or.inr (Nat.le_of_not_lt (fun h2 => h (Nat.div_eq_of_lt h2)))
        refine ks_iload dX16_pushNumber_43 rfl rfl ?_
        refine ks_if_leN (tgt := 71) (by omega) dX16_pushNumber_45 (by decide) rfl (fun h2 => ?_) (fun h2 => ?_)
        · have n0 : n = 0 := by omega
          have x0 : x = 0 := by subst n0; rw [Nat.pow_zero, Nat.div_one] at h1; exact h1
          exact ks_sub [(0, _), (1, _), (5, _)] rfl (sign S1 g n hu e1 kg (by omega) (by unfold nsN; rw [tl, if_neg (fun h => absurd h.1 (by omega))]) (fun h => absurd x0 h) hg)
        · have gt := hg (n - 1) (by omega)
          refine ks_aload_n dX16_pushNumber_48 rfl rfl ?_
          refine ks_getf (T := TX16) (kf := 75) kx_2443 rfl in_X16 cl_X16 (by decide) o1 rfl dX16_pushNumber_49 rfl ?_
          refine ks_iload dX16_pushNumber_52 rfl rfl ?_
          refine ks_iconst (x := nI 1) dX16_pushNumber_54 (by decide) rfl ?_
          refine ks_subN (by omega) dX16_pushNumber_55 rfl ?_
          refine ks_baldB (i := n - 1) e1 rfl (by omega) (by decide) dX16_pushNumber_56 rfl ?_
          refine ks_if_geY (tgt := 71) (kg _) dX16_pushNumber_57 (by decide) rfl (fun h3 => ?_) (fun h3 => ?_)
          · exact ks_sub [(0, _), (1, _), (5, _)] rfl (sign S1 g n hu e1 kg (by omega) (by unfold nsN; rw [tl, if_neg (fun h => by have := h.2; omega)]) (fun _ => ⟨by omega, by omega⟩) hg)
          · refine ks_aload_n dX16_pushNumber_60 rfl rfl ?_
            refine ks_getf (T := TX16) (kf := 75) kx_2443 rfl in_X16 cl_X16 (by decide) o1 rfl dX16_pushNumber_61 rfl ?_
            refine ks_iload dX16_pushNumber_64 rfl rfl ?_
            refine ks_iconst (x := nI 0) dX16_pushNumber_66 (by decide) rfl ?_
            refine ks_bastB (i := n) (c := 0) e1 rfl (by omega) (by decide) (ks_by_nI _) dX16_pushNumber_67 rfl ?_
            refine ks_incN (c := 1) (e := n + 1) dX16_pushNumber_68 rfl (by decide) rfl (by decide) rfl ?_
            refine ks_sub [(5, _), (0, _), (1, _), (3, _)] rfl ?_
            have x9 : x / 256 ^ n = 0 := h1
            refine ks_sub [(0, _), (1, _), (5, _)] rfl (sign _ (va_up g n 0) (n + 1) (hu.trans (ks_up_set _ _ (by decide))) (ks_set_same _ _ _) (kO_up kg (by decide)) (by omega) (by unfold nsN; rw [tl, if_pos ⟨by omega, by omega⟩]) (fun _ => ⟨by omega, by rw [Nat.add_sub_cancel, va_up_self]; decide⟩) (fun j hj => ?_))
            by_cases e : j = n
            · subst e; rw [va_up_self, x9]
            · rw [va_up_ne _ _ e]; exact hg j (by omega)
      · exact absurd x0 h1
    | succ u ih =>
      intro n S1 g hn hu e1 kg hz hg
      have o1 := hu.at hO (by decide)
      have xb : x / 256 ^ n ≤ x := Nat.div_le_self _ _
      refine ks_lload_n dX16_pushNumber_16 rfl rfl ?_
      refine ks_lconst (x := lN 0) dX16_pushNumber_17 (by decide) rfl ?_
      refine ks_lif_eqN (tgt := 43) (by omega) (by decide) dX16_pushNumber_18 rfl dX16_pushNumber_19 (by decide) rfl (fun h1 => ?_) (fun h1 => ?_)
      · have tl : tg_len x 8 = n := by
          refine tg_len_is ?_ ?_ (by omega)
          · exact Nat.lt_of_div_eq_zero (Nat.pow_pos (by decide)) h1
          · rcases hz with h | h
            · exact Or.inl h
            · refine Or.inr (Nat.le_of_not_lt (fun h2 => h (Nat.div_eq_of_lt h2)))
        refine ks_iload dX16_pushNumber_43 rfl rfl ?_
        refine ks_if_leN (tgt := 71) (by omega) dX16_pushNumber_45 (by decide) rfl (fun h2 => ?_) (fun h2 => ?_)
        · have n0 : n = 0 := by omega
          have x0 : x = 0 := by subst n0; rw [Nat.pow_zero, Nat.div_one] at h1; exact h1
          exact ks_sub [(0, _), (1, _), (5, _)] rfl (sign S1 g n hu e1 kg (by omega) (by unfold nsN; rw [tl, if_neg (fun h => absurd h.1 (by omega))]) (fun h => absurd x0 h) hg)
        · have gt := hg (n - 1) (by omega)
          refine ks_aload_n dX16_pushNumber_48 rfl rfl ?_
          refine ks_getf (T := TX16) (kf := 75) kx_2443 rfl in_X16 cl_X16 (by decide) o1 rfl dX16_pushNumber_49 rfl ?_
          refine ks_iload dX16_pushNumber_52 rfl rfl ?_
          refine ks_iconst (x := nI 1) dX16_pushNumber_54 (by decide) rfl ?_
          refine ks_subN (by omega) dX16_pushNumber_55 rfl ?_
          refine ks_baldB (i := n - 1) e1 rfl (by omega) (by decide) dX16_pushNumber_56 rfl ?_
          refine ks_if_geY (tgt := 71) (kg _) dX16_pushNumber_57 (by decide) rfl (fun h3 => ?_) (fun h3 => ?_)
          · exact ks_sub [(0, _), (1, _), (5, _)] rfl (sign S1 g n hu e1 kg (by omega) (by unfold nsN; rw [tl, if_neg (fun h => by have := h.2; omega)]) (fun _ => ⟨by omega, by omega⟩) hg)
          · refine ks_aload_n dX16_pushNumber_60 rfl rfl ?_
            refine ks_getf (T := TX16) (kf := 75) kx_2443 rfl in_X16 cl_X16 (by decide) o1 rfl dX16_pushNumber_61 rfl ?_
            refine ks_iload dX16_pushNumber_64 rfl rfl ?_
            refine ks_iconst (x := nI 0) dX16_pushNumber_66 (by decide) rfl ?_
            refine ks_bastB (i := n) (c := 0) e1 rfl (by omega) (by decide) (ks_by_nI _) dX16_pushNumber_67 rfl ?_
            refine ks_incN (c := 1) (e := n + 1) dX16_pushNumber_68 rfl (by decide) rfl (by decide) rfl ?_
            refine ks_sub [(5, _), (0, _), (1, _), (3, _)] rfl ?_
            have x9 : x / 256 ^ n = 0 := h1
            refine ks_sub [(0, _), (1, _), (5, _)] rfl (sign _ (va_up g n 0) (n + 1) (hu.trans (ks_up_set _ _ (by decide))) (ks_set_same _ _ _) (kO_up kg (by decide)) (by omega) (by unfold nsN; rw [tl, if_pos ⟨by omega, by omega⟩]) (fun _ => ⟨by omega, by rw [Nat.add_sub_cancel, va_up_self]; decide⟩) (fun j hj => ?_))
            by_cases e : j = n
            · subst e; rw [va_up_self, x9]
            · rw [va_up_ne _ _ e]; exact hg j (by omega)
      · have n5 := pn_lt hv h1
        refine ks_aload_n dX16_pushNumber_22 rfl rfl ?_
        refine ks_getf (T := TX16) (kf := 75) kx_2443 rfl in_X16 cl_X16 (by decide) o1 rfl dX16_pushNumber_23 rfl ?_
        refine ks_iload dX16_pushNumber_26 rfl rfl ?_
        refine ks_lload_n dX16_pushNumber_28 rfl rfl ?_
        refine ks_l2iN dX16_pushNumber_29 rfl ?_
        refine ks_i2b dX16_pushNumber_30 rfl ?_
        refine ks_bastB (i := n) (c := (x / 256 ^ n) % 256) e1 rfl (by omega) (by decide) ((ks_by_i8 _).trans (ks_by_nI _)) dX16_pushNumber_31 rfl ?_
        refine ks_lload_n dX16_pushNumber_32 rfl rfl ?_
        refine ks_bipush (x := nI 8) dX16_pushNumber_33 (by decide) rfl ?_
        refine ks_lushrN (k := 8) (by decide) (by omega) dX16_pushNumber_35 rfl ?_
        refine ks_lstore_n dX16_pushNumber_36 (by decide) rfl ?_
        refine ks_sub [(3, _), (0, _), (1, _), (5, _)] rfl ?_
        refine ks_incN (c := 1) (e := n + 1) dX16_pushNumber_37 rfl (by decide) rfl (by decide) rfl ?_
        refine ks_sub [(5, _), (0, _), (1, _), (3, _)] rfl ?_
        refine ks_goto (tgt := 16) dX16_pushNumber_40 (by decide) ?_
        rw [pn_div]
        refine ks_sub [(0, _), (1, _), (3, _), (5, _)] rfl (ih (n + 1) _ (va_up g n (x / 256 ^ n % 256)) (by omega) (hu.trans (ks_up_set _ _ (by decide))) (ks_set_same _ _ _) (kO_up kg (Nat.mod_lt _ (by decide))) (Or.inr (by rw [Nat.add_sub_cancel]; exact h1)) (fun j hj => ?_))
        by_cases e : j = n
        · subst e; rw [va_up_self]
        · rw [va_up_ne _ _ e]; exact hg j (by omega)
  have tail : ks_X l G mX16_pushNumber (d + 2) 12 [(0, .ref 290), (1, .long (iL v))] [.long (lN x)] S (fun z S' => z = none ∧ stK S S' V (frT T) (xs.length ≤ 1000) xs (numI v :: xs) ys vs) := by
    refine ks_lstore_n dX16_pushNumber_12 (by decide) rfl ?_
    refine ks_sub [(3, _), (0, _), (1, _)] rfl ?_
    refine ks_iconst (x := nI 0) dX16_pushNumber_13 (by decide) rfl ?_
    refine ks_istore dX16_pushNumber_14 (by decide) rfl ?_
    refine ks_sub [(5, _), (0, _), (1, _), (3, _)] rfl ?_
    exact ks_sub [(0, _), (1, _), (3, .long (lN (x / 256 ^ 0))), (5, _)] (by rw [Nat.pow_zero, Nat.div_one]; rfl) (loop 5 0 S gS rfl (ks_up.rf _ _) h367 kS (Or.inl rfl) (fun j h => absurd h (Nat.not_lt_zero _)))
  refine ks_of (by decide) rfl rfl (Nat.le_of_ble_eq_true rfl) ?_
  show ks_X l G mX16_pushNumber (d + 2) 0 [(0, .ref 290), (1, .long (iL v))] [] S _
  refine ks_lload_n dX16_pushNumber_0 rfl rfl ?_
  refine ks_lconst (x := lN 0) dX16_pushNumber_1 (by decide) rfl ?_
  refine ks_lif_ge (tgt := 11) dX16_pushNumber_2 rfl dX16_pushNumber_3 (by decide) rfl (fun h1 => ?_) (fun h1 => ?_)
  · have v0 := i1.mp h1
    refine ks_lload_n dX16_pushNumber_11 rfl rfl ?_
    rw [show iL v = lN x by rw [lN_iL]; congr 1; omega] at tail ⊢
    exact tail
  · have v0 : v < 0 := Int.not_le.mp (fun h => h1 (i1.mpr h))
    refine ks_lload_n dX16_pushNumber_6 rfl rfl ?_
    refine ks_lneg dX16_pushNumber_7 rfl ?_
    refine ks_goto (tgt := 12) dX16_pushNumber_8 (by decide) ?_
    refine ks_tl (y := lN x) (by rw [iL_neg, lN_iL]; congr 1; omega) ?_
    exact tail
set_option maxRecDepth 100000 in
set_option maxHeartbeats 800000 in
theorem c_rs_pushTruth {l : Launch} {G : ks_G} {d : Nat} {S : ks_S} {V : Nat → Value} {F : Nat} {xs ys : List (List Nat)} {vs : Vs} (hO : S.2.2 290 = some (rfE V)) (hK : rsQ S V F xs ys vs) {b : Bool} : ks_P l G yX16_pushTruth mX16_pushTruth (d + 3) [.ref 290, .int (ks_bo b)] S (fun z S' => z = none ∧ stK S S' V F (xs.length ≤ 1000) xs (flagL b :: xs) ys vs) := by
  have f1 : flagL true = numI 1 := by decide
  have f0 : flagL false = numI 0 := by decide
  refine ks_of (by decide) rfl rfl (Nat.le_of_ble_eq_true rfl) ?_
  show ks_X l G mX16_pushTruth (d + 3) 0 [(0, .ref 290), (1, .int (ks_bo b))] [] S _
  refine ks_aload_n dX16_pushTruth_0 rfl rfl ?_
  refine ks_iload_n dX16_pushTruth_1 rfl rfl ?_
  refine ks_if_eqZ (tgt := 9) dX16_pushTruth_2 (by decide) rfl (fun h1 => ?_) (fun h1 => ?_)
  · refine ks_lconst (x := lN 0) dX16_pushTruth_9 (by decide) rfl ?_
    refine ks_callV (n := 1) (M' := mX16_pushNumber) (c_rs_pushNumber (d := d) hO hK (v := 0) (by decide)) hO cl_X16 rfl kx_2184 kx_2186 kxp_91 kx_30 kx_2187 (by decide +kernel) rfl (by decide) (Nat.le_of_ble_eq_true rfl) rfl dX16_pushTruth_10 rfl (fun z1 S1 y1 => ?_)
    obtain ⟨rfl, hs⟩ := y1
    refine ks_ret rfl dX16_pushTruth_13 ?_
    rw [h1, f0]
    exact ⟨rfl, hs⟩
  · refine ks_lconst (x := lN 1) dX16_pushTruth_5 (by decide) rfl ?_
    refine ks_goto (tgt := 10) dX16_pushTruth_6 (by decide) ?_
    refine ks_callV (n := 1) (M' := mX16_pushNumber) (c_rs_pushNumber (d := d) hO hK (v := 1) (by decide)) hO cl_X16 rfl kx_2184 kx_2186 kxp_91 kx_30 kx_2187 (by decide +kernel) rfl (by decide) (Nat.le_of_ble_eq_true rfl) rfl dX16_pushTruth_10 rfl (fun z1 S1 y1 => ?_)
    obtain ⟨rfl, hs⟩ := y1
    refine ks_ret rfl dX16_pushTruth_13 ?_
    rw [h1, f1]
    exact ⟨rfl, hs⟩
