/-! THE REFERENCE: its constructor, the numbers of the hash -/
theorem prm_c : ∀ p, p < 312 → 2 ≤ p → prmC p < 64 ∧ prmC (p + 1) = prmC p + (if piF p p 2 = true then 1 else 0) ∧ (piF p p 2 = true → prmL.getD (prmC p) 0 = p) := by decide +kernel
set_option maxRecDepth 100000 in
set_option maxHeartbeats 1600000 in
theorem l_inP {l : Launch} {G : ks_G} {d : Nat} {S : ks_S} {V : Nat → Value} (hO : S.2.2 290 = some (rfE V)) {P9 : Option Value → ks_S → Prop} (hk : ∀ (S1 : ks_S) (F8 F9 : Nat → Int32), ks_up S S1 [294, 295, 296, 297, 298] → S1.2.2 294 = some (kI 8 F8) → S1.2.2 295 = some (kI 64 F9) → (∃ f, S1.2.2 296 = some (kL 3 f)) → (∃ f, S1.2.2 297 = some (kL 6 f)) → (∃ f, S1.2.2 298 = some (kL 9 f)) → (∀ j, (j < 8 → F8 j = ks_row st_SHA_START j) ∧ (8 ≤ j → F8 j = nI 0)) → (∀ j, (j < 64 → F9 j = sh_K j) ∧ (64 ≤ j → F9 j = nI 0)) → ks_X l G mX16_init (d + 2) 2958 [(0, .ref 290)] [] S1 P9) : ∀ (u p : Nat) (S1 : ks_S) (F8 F9 : Nat → Int32), p + u = 312 → 2 ≤ p → ks_up S S1 [294, 295, 296, 297, 298] → S1.2.2 294 = some (kI 8 F8) → S1.2.2 295 = some (kI 64 F9) → (∃ f, S1.2.2 296 = some (kL 3 f)) → (∃ f, S1.2.2 297 = some (kL 6 f)) → (∃ f, S1.2.2 298 = some (kL 9 f)) → (∀ j, (j < prmC p → j < 8 → F8 j = ks_row st_SHA_START j) ∧ (prmC p ≤ j ∨ 8 ≤ j → F8 j = nI 0)) → (∀ j, (j < prmC p → F9 j = sh_K j) ∧ (prmC p ≤ j → F9 j = nI 0)) → ks_X l G mX16_init (d + 2) 2900 [(0, .ref 290), (3, .int (nI (prmC p))), (4, .int (nI p))] [] S1 P9 := by
  intro u
  induction u with
  | zero =>
    intro p S1 F8 F9 hp h2 hu e4 e5 e6 e7 e8 i8 i9
    have o1 := hu.at hO (by decide)
    obtain rfl : p = 312 := hp
    have hc : prmC 312 = 64 := by decide +kernel
    refine ks_iload_n dX16_init_2900 rfl rfl ?_
    refine ks_bipush (x := nI 64) dX16_init_2901 (by decide) rfl ?_
    refine ks_icmp_geN (tgt := 2958) (by omega) (by decide) dX16_init_2903 (by decide) rfl (fun h1 => ?_) (fun h1 => absurd h1 (by omega))
    refine ks_sub [(0, _)] rfl (hk S1 F8 F9 hu e4 e5 e6 e7 e8 (fun j => ⟨fun h => (i8 j).1 (by omega) h, fun h => (i8 j).2 (Or.inr h)⟩) (fun j => ⟨fun h => (i9 j).1 (by omega), fun h => (i9 j).2 (by omega)⟩))
  | succ u ih =>
    intro p S1 F8 F9 hp h2 hu e4 e5 e6 e7 e8 i8 i9
    have o1 := hu.at hO (by decide)
    obtain ⟨hc, hc1, hc2⟩ := prm_c p (by omega) h2
    obtain ⟨f6, e6⟩ := e6
    obtain ⟨f7, e7⟩ := e7
    obtain ⟨f8, e8⟩ := e8
    refine ks_iload_n dX16_init_2900 rfl rfl ?_
    refine ks_bipush (x := nI 64) dX16_init_2901 (by decide) rfl ?_
    refine ks_icmp_geN (tgt := 2958) (by omega) (by decide) dX16_init_2903 (by decide) rfl (fun h1 => absurd h1 (by omega)) (fun h1 => ?_)
    refine ks_iload dX16_init_2906 rfl rfl ?_
    refine ks_callS (n := 1) (M' := mX16_isPrime) (c_md_isPrime (d := d + 1) (p := p) (by omega)) kx_1905 kx_1906 kx_30 kx_1907 (by decide +kernel) rfl (by decide) (Nat.le_of_ble_eq_true rfl) rfl dX16_init_2908 rfl (fun z2 T2 y2 => ?_)
    obtain ⟨rfl, hT2⟩ := y2
    obtain rfl := hT2.symm
    refine ks_if_neZ (tgt := 2917) dX16_init_2911 (by decide) rfl (fun h3 => ?_) (fun h3 => ?_)
    · rw [h3, if_pos rfl] at hc1
      have hpr := hc2 h3
      obtain ⟨c, ec⟩ : ∃ c, c = prmC p := ⟨_, rfl⟩
      rw [← ec] at hc hc1 hpr i8 i9
      refine ks_sub [(0, _), (3, .int (nI c)), (4, _)] (by rw [ec]; rfl) ?_
      refine ks_iload_n dX16_init_2917 rfl rfl ?_
      refine ks_bipush (x := nI 8) dX16_init_2918 (by decide) rfl ?_
      refine ks_icmp_geN (tgt := 2936) (by omega) (by decide) dX16_init_2920 (by decide) rfl (fun h4 => ?_) (fun h4 => ?_)
      · have o9 := o1
        refine ks_aload_n dX16_init_2936 rfl rfl ?_
        refine ks_getf (T := TX16) (kf := 4) kx_2372 rfl in_X16 cl_X16 (by decide) o1 rfl dX16_init_2937 rfl ?_
        refine ks_iload_n dX16_init_2940 rfl rfl ?_
        refine ks_aload_n dX16_init_2941 rfl rfl ?_
        refine ks_iload dX16_init_2942 rfl rfl ?_
        refine ks_iconst (x := nI 1) dX16_init_2944 (by decide) rfl ?_
        refine ks_callV (n := 2) (M' := mX16_fraction) (c_md_fraction1 (d := d) (p := p) o9 (by omega) e6 e7 e8) o1 cl_X16 rfl kx_1908 kx_1910 kxp_50 kx_30 kx_1911 (by decide +kernel) rfl (by decide) (Nat.le_of_ble_eq_true rfl) rfl dX16_init_2945 rfl (fun z5 T5 y5 => ?_)
        obtain ⟨rfl, u5, x6, x7, x8⟩ := y5
        have e55 := u5.at e5 (by decide)
        have e45 := u5.at e4 (by decide)
        have o5 := u5.at o9 (by decide)
        refine ks_iastN (i := c) (by decide) e55 rfl (by omega) (by decide) dX16_init_2948 rfl ?_
        refine ks_incN (c := 1) (e := c + 1) dX16_init_2949 rfl (by decide) rfl (by decide) rfl ?_
        refine ks_sub [(3, _), (0, _), (4, _)] rfl ?_
        refine ks_incN (c := 1) (e := p + 1) dX16_init_2952 rfl (by decide) rfl (by decide) rfl ?_
        refine ks_sub [(4, _), (0, _), (3, _)] rfl ?_
        refine ks_goto (tgt := 2900) dX16_init_2955 (by decide) ?_
        have er : nI (frL p true 36 0) = sh_K c := by
          have := prm_round c (by omega)
          rw [hpr] at this
          exact this
        refine ks_sub [(0, _), (3, .int (nI (prmC (p + 1)))), (4, _)] (by rw [hc1]; rfl) (ih (p + 1) _ F8 (va_up F9 c (nI (frL p true 36 0))) (by omega) (by omega) ((hu.trans (u5.mono (by decide))).trans (ks_up_set _ _ (by decide))) ((ks_set_ne _ _ (by decide)).trans e45) (ks_set_same _ _ _) ?_ ?_ ?_ (fun j => by rw [hc1]; exact ⟨fun h h8 => (i8 j).1 (by omega) h8, fun h => (i8 j).2 (by omega)⟩) (fun j => ?_))
        · obtain ⟨f, hf⟩ := x6
          exact ⟨f, (ks_set_ne _ _ (by decide)).trans hf⟩
        · obtain ⟨f, hf⟩ := x7
          exact ⟨f, (ks_set_ne _ _ (by decide)).trans hf⟩
        · obtain ⟨f, hf⟩ := x8
          exact ⟨f, (ks_set_ne _ _ (by decide)).trans hf⟩
        · rw [hc1]
          by_cases hj : j = c
          · rw [hj, va_up_self]
            exact ⟨fun _ => er, fun h => absurd h (by omega)⟩
          · rw [va_up_ne _ _ hj]
            exact ⟨fun h => (i9 j).1 (by omega), fun h => (i9 j).2 (by omega)⟩
      · refine ks_aload_n dX16_init_2923 rfl rfl ?_
        refine ks_getf (T := TX16) (kf := 3) kx_2371 rfl in_X16 cl_X16 (by decide) o1 rfl dX16_init_2924 rfl ?_
        refine ks_iload_n dX16_init_2927 rfl rfl ?_
        refine ks_aload_n dX16_init_2928 rfl rfl ?_
        refine ks_iload dX16_init_2929 rfl rfl ?_
        refine ks_iconst (x := nI 0) dX16_init_2931 (by decide) rfl ?_
        refine ks_callV (n := 2) (M' := mX16_fraction) (c_md_fraction0 (d := d) (p := p) o1 (by omega) e6 e7 e8) o1 cl_X16 rfl kx_1908 kx_1910 kxp_50 kx_30 kx_1911 (by decide +kernel) rfl (by decide) (Nat.le_of_ble_eq_true rfl) rfl dX16_init_2932 rfl (fun z4 T4 y4 => ?_)
        obtain ⟨rfl, u4, ⟨k6, x6⟩, ⟨k7, x7⟩, k8, x8⟩ := y4
        have e44 := u4.at e4 (by decide)
        have o4 := u4.at o1 (by decide)
        refine ks_iastN (i := c) (by decide) e44 rfl (by omega) (by decide) dX16_init_2935 rfl ?_
        refine ks_nm (fun T9 e9 => ?_)
        have u9 : ks_up T4 T9 [294] := by rw [e9]; exact ks_up_set _ _ (List.mem_singleton.mpr rfl)
        have e49 : T9.2.2 294 = some (kI 8 (va_up F8 c (nI (frL p false 36 0)))) := by rw [e9]; exact ks_set_same _ _ _
        clear e9
        have o9 := u9.at o4 (by decide)
        have er0 : nI (frL p false 36 0) = ks_row st_SHA_START c := by
          have := prm_start c (by omega)
          rw [hpr] at this
          exact this
        have i89 : ∀ j, (j < c + 1 → j < 8 → va_up F8 c (nI (frL p false 36 0)) j = ks_row st_SHA_START j) ∧ (c + 1 ≤ j ∨ 8 ≤ j → va_up F8 c (nI (frL p false 36 0)) j = nI 0) := fun j => by
          by_cases hj : j = c
          · rw [hj, va_up_self]
            exact ⟨fun _ _ => er0, fun h => absurd h (by omega)⟩
          · rw [va_up_ne _ _ hj]
            exact ⟨fun h h8 => (i8 j).1 (by omega) h8, fun h => (i8 j).2 (by omega)⟩
        have e59 := u9.at (u4.at e5 (by decide)) (by decide)
        refine ks_aload_n dX16_init_2936 rfl rfl ?_
        refine ks_getf (T := TX16) (kf := 4) kx_2372 rfl in_X16 cl_X16 (by decide) o9 rfl dX16_init_2937 rfl ?_
        refine ks_iload_n dX16_init_2940 rfl rfl ?_
        refine ks_aload_n dX16_init_2941 rfl rfl ?_
        refine ks_iload dX16_init_2942 rfl rfl ?_
        refine ks_iconst (x := nI 1) dX16_init_2944 (by decide) rfl ?_
        refine ks_callV (n := 2) (M' := mX16_fraction) (c_md_fraction1 (d := d) (p := p) o9 (by omega) (u9.at x6 (by decide)) (u9.at x7 (by decide)) (u9.at x8 (by decide))) o9 cl_X16 rfl kx_1908 kx_1910 kxp_50 kx_30 kx_1911 (by decide +kernel) rfl (by decide) (Nat.le_of_ble_eq_true rfl) rfl dX16_init_2945 rfl (fun z5 T5 y5 => ?_)
        obtain ⟨rfl, u5, x6, x7, x8⟩ := y5
        have e55 := u5.at e59 (by decide)
        have e45 := u5.at e49 (by decide)
        have o5 := u5.at o9 (by decide)
        refine ks_iastN (i := c) (by decide) e55 rfl (by omega) (by decide) dX16_init_2948 rfl ?_
        refine ks_incN (c := 1) (e := c + 1) dX16_init_2949 rfl (by decide) rfl (by decide) rfl ?_
        refine ks_sub [(3, _), (0, _), (4, _)] rfl ?_
        refine ks_incN (c := 1) (e := p + 1) dX16_init_2952 rfl (by decide) rfl (by decide) rfl ?_
        refine ks_sub [(4, _), (0, _), (3, _)] rfl ?_
        refine ks_goto (tgt := 2900) dX16_init_2955 (by decide) ?_
        have er : nI (frL p true 36 0) = sh_K c := by
          have := prm_round c (by omega)
          rw [hpr] at this
          exact this
        refine ks_sub [(0, _), (3, .int (nI (prmC (p + 1)))), (4, _)] (by rw [hc1]; rfl) (ih (p + 1) _ (va_up F8 c (nI (frL p false 36 0))) (va_up F9 c (nI (frL p true 36 0))) (by omega) (by omega) ((((hu.trans (u4.mono (by decide))).trans (u9.mono (by decide))).trans (u5.mono (by decide))).trans (ks_up_set _ _ (by decide))) ((ks_set_ne _ _ (by decide)).trans e45) (ks_set_same _ _ _) ?_ ?_ ?_ (by rw [hc1]; exact i89) (fun j => ?_))
        · obtain ⟨f, hf⟩ := x6
          exact ⟨f, (ks_set_ne _ _ (by decide)).trans hf⟩
        · obtain ⟨f, hf⟩ := x7
          exact ⟨f, (ks_set_ne _ _ (by decide)).trans hf⟩
        · obtain ⟨f, hf⟩ := x8
          exact ⟨f, (ks_set_ne _ _ (by decide)).trans hf⟩
        · rw [hc1]
          by_cases hj : j = c
          · rw [hj, va_up_self]
            exact ⟨fun _ => er, fun h => absurd h (by omega)⟩
          · rw [va_up_ne _ _ hj]
            exact ⟨fun h => (i9 j).1 (by omega), fun h => (i9 j).2 (by omega)⟩
    · rw [h3, if_neg (by decide), Nat.add_zero] at hc1
      refine ks_goto (tgt := 2952) dX16_init_2914 (by decide) ?_
      refine ks_incN (c := 1) (e := p + 1) dX16_init_2952 rfl (by decide) rfl (by decide) rfl ?_
      refine ks_sub [(4, _), (0, _), (3, _)] rfl ?_
      refine ks_goto (tgt := 2900) dX16_init_2955 (by decide) ?_
      refine ks_sub [(0, _), (3, .int (nI (prmC (p + 1)))), (4, _)] (by rw [hc1]; rfl) (ih (p + 1) S1 F8 F9 (by omega) (by omega) hu e4 e5 ⟨f6, e6⟩ ⟨f7, e7⟩ ⟨f8, e8⟩ (by rw [hc1]; exact i8) (by rw [hc1]; exact i9))
