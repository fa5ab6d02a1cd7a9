/-! THE REFERENCE: lift -/
/-- places i .. t, the first of them last -/
def rotP (i t j : Nat) : Nat := if j < i ∨ t < j then j else if j < t then j + 1 else i
theorem rotP_b {i t j : Nat} (hi : i ≤ t) : (j ≤ t → rotP i t j ≤ t) ∧ (t < j → rotP i t j = j) := by
  unfold rotP
  constructor
  · intro h; split; omega; split <;> omega
  · intro h; rw [if_pos (Or.inr h)]
theorem rotP_inj {i t j k : Nat} (hi : i ≤ t) (h : rotP i t j = rotP i t k) : j = k := by
  unfold rotP at h
  by_cases a1 : j < i ∨ t < j
  · rw [if_pos a1] at h
    by_cases b1 : k < i ∨ t < k
    · rw [if_pos b1] at h; exact h
    · rw [if_neg b1] at h
      by_cases b2 : k < t
      · rw [if_pos b2] at h; omega
      · rw [if_neg b2] at h; omega
  · rw [if_neg a1] at h
    by_cases a2 : j < t
    · rw [if_pos a2] at h
      by_cases b1 : k < i ∨ t < k
      · rw [if_pos b1] at h; omega
      · rw [if_neg b1] at h
        by_cases b2 : k < t
        · rw [if_pos b2] at h; omega
        · rw [if_neg b2] at h; omega
    · rw [if_neg a2] at h
      by_cases b1 : k < i ∨ t < k
      · rw [if_pos b1] at h; omega
      · rw [if_neg b1] at h
        by_cases b2 : k < t
        · rw [if_pos b2] at h; omega
        · omega
theorem lfS_lq {k : Nat} {xs : List (List Nat)} (hk : k < xs.length) : (lfS k xs).length = xs.length := by
  unfold lfS
  rw [List.length_cons, List.length_eraseIdx, if_pos hk]
  omega
theorem lfS_at {k : Nat} {xs : List (List Nat)} (hk : k < xs.length) {j : Nat} (hj : j < xs.length) : (lfS k xs).getD (xs.length - 1 - j) [] = xs.getD (xs.length - 1 - rotP (xs.length - 1 - k) (xs.length - 1) j) [] := by
  unfold lfS rotP
  by_cases a1 : j < xs.length - 1 - k ∨ xs.length - 1 < j
  · rw [if_pos a1, show xs.length - 1 - j = (xs.length - 1 - j - 1) + 1 by omega, List.getD_cons_succ, List.getD_eq_getElem?_getD, List.getElem?_eraseIdx, if_neg (by omega), ← List.getD_eq_getElem?_getD]
  · rw [if_neg a1]
    by_cases a2 : j < xs.length - 1
    · rw [if_pos a2, show xs.length - 1 - j = (xs.length - 1 - (j + 1)) + 1 by omega, List.getD_cons_succ, List.getD_eq_getElem?_getD, List.getElem?_eraseIdx, if_pos (by omega), ← List.getD_eq_getElem?_getD]
    · rw [if_neg a2, show xs.length - 1 - j = 0 by omega, List.getD_cons_zero, show xs.length - 1 - (xs.length - 1 - k) = k by omega]
set_option maxRecDepth 100000 in
set_option maxHeartbeats 1600000 in
theorem c_rs_lift {l : Launch} {G : ks_G} {d : Nat} {S : ks_S} {V : Nat → Value} {F : Nat} {xs ys : List (List Nat)} {vs : Vs} (hO : S.2.2 290 = some (rfE V)) (hK : rsQ S V F xs ys vs) {k : Nat} (hk : k < xs.length) : ks_P l G yX16_lift mX16_lift d [.ref 290, .int (nI k)] S (fun z S' => z = none ∧ ks_up S S' [361, 362] ∧ rsQ S' V F (lfS k xs) ys vs) := by
  obtain ⟨T, sz, oz, vz, hK', rfl, gS, kS, h367⟩ := hK
  have hK := hK'
  obtain ⟨hT, ⟨h362, h364, h366⟩, ⟨v67, v70, v73⟩, ⟨bx, by9, bv⟩, hx, hys, hvs, hU⟩ := id hK
  obtain ⟨r, g, a1, a2, a3, a4, a5⟩ := hx (xs.length - 1 - k) (by omega)
  obtain ⟨t, et⟩ : ∃ t, t = xs.length - 1 := ⟨_, rfl⟩
  obtain ⟨i, ei⟩ : ∃ i, i = xs.length - 1 - k := ⟨_, rfl⟩
  rw [← ei] at a1 a4 a5
  have hit : i ≤ t := by omega
  have ht1 : t < xs.length := by omega
  have fin : ∀ (S1 : ks_S) (f : Nat → Option Nat) (s : Nat → Nat), ks_up S S1 [361, 362] → S1.2.2 361 = some (kA 4 1002 f) → S1.2.2 362 = some (kN 1002 s) → (∀ j, f j = T 0 (rotP i t j)) → (∀ j, s j = sz (rotP i t j)) → rsQ S1 V (frT T) (lfS k xs) ys vs := by
    intro S1 f s hu e1 e2 hf hs
    have nn : ∀ j, j < xs.length → ∃ r, T 0 j = some r := fun j hj => by obtain ⟨r, g, h1, -⟩ := hx j hj; exact ⟨r, h1⟩
    have k520 : ∀ x g, S.2.2 x = some (kB 520 g) → S1.2.2 x = some (kB 520 g) := fun x g h => hu.at h (by simp only [List.mem_cons, List.not_mem_nil, or_false, not_or]; exact ⟨ks_ne h (hT.1 0 (by decide)) (fun h => by cases h), ks_ne h h362 (fun h => by cases h)⟩)
    have hT0 : ∀ a j, va_up T 0 f a j = if a = 0 then T 0 (rotP i t j) else T a j := fun a j => by
      by_cases e : a = 0
      · subst e; rw [va_up_self, if_pos rfl]; exact hf j
      · rw [va_up_ne _ _ e, if_neg e]
    have hfr : frT (va_up T 0 f) = frT T := frT_c (fun a j => by
      rw [hT0]
      by_cases e : a = 0
      · subst e
        rw [if_pos rfl]
        by_cases hj : j ≤ t
        · obtain ⟨r1, h1⟩ := nn j (by omega)
          obtain ⟨r2, h2⟩ := nn (rotP i t j) (by have := (rotP_b (j := j) hit).1 hj; omega)
          rw [h1, h2]
          exact ⟨fun h => (by cases h), fun h => by cases h⟩
        · rw [(rotP_b hit).2 (by omega)]
      · rw [if_neg e])
    have hT1 : tbS S1 (va_up T 0 f) := by
      obtain ⟨b1, b2, b3, b4, b5⟩ := hT
      refine ⟨fun a ha => ?_, fun a x b y q h1 h2 => ?_, fun a x q h1 => ?_, b4.up hu (fun x hx => ?_), by rw [hu.1, hfr]; exact b5⟩
      · by_cases e : a = 0
        · subst e; rw [va_up_self]; exact e1
        · rw [va_up_ne _ _ e]; exact hu.at (b1 a ha) (by simp only [List.mem_cons, List.not_mem_nil, or_false, not_or]; omega)
      · rw [hT0] at h1 h2
        by_cases ea : a = 0
        · rw [if_pos ea] at h1
          by_cases eb : b = 0
          · rw [if_pos eb] at h2
            exact ⟨by omega, rotP_inj hit (b2 _ _ _ _ _ h1 h2).2⟩
          · rw [if_neg eb] at h2
            exact absurd (b2 _ _ _ _ _ h1 h2).1.symm eb
        · rw [if_neg ea] at h1
          by_cases eb : b = 0
          · rw [if_pos eb] at h2
            exact absurd (b2 _ _ _ _ _ h1 h2).1 ea
          · rw [if_neg eb] at h2
            exact b2 _ _ _ _ _ h1 h2
      · rw [hT0] at h1
        by_cases ea : a = 0
        · rw [if_pos ea] at h1
          obtain ⟨c1, g9, c2, c3⟩ := b3 _ _ _ h1
          refine ⟨⟨by omega, ?_⟩, g9, c2, k520 _ _ c3⟩
          by_cases hj : x ≤ t
          · omega
          · rw [(rotP_b hit).2 (by omega)] at c1; exact c1.2
        · rw [if_neg ea] at h1
          obtain ⟨c1, g9, c2, c3⟩ := b3 _ _ _ h1
          exact ⟨c1, g9, c2, k520 _ _ c3⟩
      · simp only [List.mem_cons, List.not_mem_nil, or_false] at hx
        rcases hx with rfl | rfl
        · exact b4.lt (b1 0 (by decide))
        · exact b4.lt h362
    refine ⟨va_up T 0 f, s, oz, vz, ⟨hT1, ⟨e2, hu.at h364 (by decide), hu.at h366 (by decide)⟩, ⟨by rw [lfS_lq hk]; exact v67, v70, v73⟩, ⟨by rw [lfS_lq hk]; exact bx, by9, bv⟩, fun j hj => ?_, hys.keep (fun j _ => ⟨by rw [va_up_ne _ _ (by decide)], rfl⟩) (fun j r g _ _ h => k520 r g h), hvs.keep (fun j _ => ⟨by rw [va_up_ne _ _ (by decide)], rfl⟩) (fun j r g _ _ h => k520 r g h), (va_up_ne _ _ (by decide)).trans hU⟩, hfr, gS, kS, hu.at h367 (by decide)⟩
    rw [lfS_lq hk] at hj
    have hb := (rotP_b (j := j) hit).1 (by omega)
    obtain ⟨r1, g1, c1, c2, c3, c4, c5⟩ := hx (rotP i t j) (by omega)
    refine ⟨r1, g1, by rw [va_up_self, hf]; exact c1, k520 _ _ c2, c3, by rw [hs]; exact c4, ?_⟩
    rw [lfS_lq hk, lfS_at hk hj, hs, ← c5, ei, et]
  have loop : ∀ (u c : Nat) (S1 : ks_S) (f : Nat → Option Nat) (s : Nat → Nat), c + u = t → i ≤ c → ks_up S S1 [361, 362] → S1.2.2 361 = some (kA 4 1002 f) → S1.2.2 362 = some (kN 1002 s) → (∀ j, f j = if j < i ∨ c ≤ j then T 0 j else T 0 (j + 1)) → (∀ j, s j = if j < i ∨ c ≤ j then sz j else sz (j + 1)) → ks_X l G mX16_lift d 24 [(0, .ref 290), (1, .int (nI k)), (2, .int (nI c)), (3, .ref r), (4, .int (nI (sz i)))] [] S1 (fun z S' => z = none ∧ ks_up S S' [361, 362] ∧ rsQ S' V (frT T) (lfS k xs) ys vs) := by
    intro u
    induction u with
    | zero =>
      intro c S1 f s hc hic hu e1 e2 hf hs
      have o1 := hu.at hO (by decide)
      have r1 := hu.at a2 (by simp only [List.mem_cons, List.not_mem_nil, or_false, not_or]; exact ⟨ks_ne a2 (hT.1 0 (by decide)) (fun h => by cases h), ks_ne a2 h362 (fun h => by cases h)⟩)
      refine ks_iload_n dX16_lift_24 rfl rfl ?_
      refine ks_aload_n dX16_lift_25 rfl rfl ?_
      refine ks_getf (T := TX16) (kf := 67) kx_2435 rfl in_X16 cl_X16 (by decide) o1 rfl dX16_lift_26 rfl ?_
      refine ks_tv v67 ?_
      refine ks_iconst (x := nI 1) dX16_lift_29 (by decide) rfl ?_
      refine ks_subN (by omega) dX16_lift_30 rfl ?_
      rw [← et]
      refine ks_icmp_geN (tgt := 68) (by omega) (by omega) dX16_lift_31 (by decide) rfl (fun h1 => ?_) (fun h1 => absurd h1 (by omega))
      obtain rfl : c = t := hc
      have ec : c = xs.length - 1 := et
      refine ks_aload_n dX16_lift_68 rfl rfl ?_
      refine ks_getf (T := TX16) (kf := 65) kx_2433 rfl in_X16 cl_X16 (by decide) o1 rfl dX16_lift_69 rfl ?_
      refine ks_aload_n dX16_lift_72 rfl rfl ?_
      refine ks_getf (T := TX16) (kf := 67) kx_2435 rfl in_X16 cl_X16 (by decide) o1 rfl dX16_lift_73 rfl ?_
      refine ks_tv v67 ?_
      refine ks_iconst (x := nI 1) dX16_lift_76 (by decide) rfl ?_
      refine ks_subN (by omega) dX16_lift_77 rfl ?_
      rw [← ec]
      refine ks_aload_n dX16_lift_78 rfl rfl ?_
      refine ks_aastAN (i := c) kx_74 e1 r1 (by omega) (by decide) dX16_lift_79 rfl ?_
      refine ks_aload_n dX16_lift_80 rfl rfl ?_
      refine ks_getf (T := TX16) (kf := 66) kx_2434 rfl in_X16 cl_X16 (by decide) ((ks_set_ne _ _ (by decide)).trans o1) rfl dX16_lift_81 rfl ?_
      refine ks_aload_n dX16_lift_84 rfl rfl ?_
      refine ks_getf (T := TX16) (kf := 67) kx_2435 rfl in_X16 cl_X16 (by decide) ((ks_set_ne _ _ (by decide)).trans o1) rfl dX16_lift_85 rfl ?_
      refine ks_tv v67 ?_
      refine ks_iconst (x := nI 1) dX16_lift_88 (by decide) rfl ?_
      refine ks_subN (by omega) dX16_lift_89 rfl ?_
      rw [← ec]
      refine ks_iload dX16_lift_90 rfl rfl ?_
      refine ks_iastNN (i := c) (v := sz i) (by decide) ((ks_set_ne _ _ (by decide)).trans e2) (by omega) (by decide) dX16_lift_92 rfl ?_
      refine ks_ret rfl dX16_lift_93 ?_
      refine ⟨rfl, (hu.trans (ks_up_set _ _ (by decide))).trans (ks_up_set _ _ (by decide)), fin _ (va_up f c (some r)) (va_up s c (sz i)) ((hu.trans (ks_up_set _ _ (by decide))).trans (ks_up_set _ _ (by decide))) ((ks_set_ne _ _ (by decide)).trans (ks_set_same _ _ _)) (ks_set_same _ _ _) (fun j => ?_) (fun j => ?_)⟩
      · by_cases e : j = c
        · subst e; rw [va_up_self]; unfold rotP; rw [if_neg (by omega), if_neg (by omega)]; exact a1.symm
        · rw [va_up_ne _ _ e, hf]
          unfold rotP
          by_cases e2 : j < i ∨ c ≤ j
          · rw [if_pos e2, if_pos (by omega)]
          · rw [if_neg e2, if_neg (by omega), if_pos (by omega)]
      · by_cases e : j = c
        · subst e; rw [va_up_self]; unfold rotP; rw [if_neg (by omega), if_neg (by omega)]
        · rw [va_up_ne _ _ e, hs]
          unfold rotP
          by_cases e2 : j < i ∨ c ≤ j
          · rw [if_pos e2, if_pos (by omega)]
          · rw [if_neg e2, if_neg (by omega), if_pos (by omega)]
    | succ u ih =>
      intro c S1 f s hc hic hu e1 e2 hf hs
      have o1 := hu.at hO (by decide)
      have r1 := hu.at a2 (by simp only [List.mem_cons, List.not_mem_nil, or_false, not_or]; exact ⟨ks_ne a2 (hT.1 0 (by decide)) (fun h => by cases h), ks_ne a2 h362 (fun h => by cases h)⟩)
      refine ks_iload_n dX16_lift_24 rfl rfl ?_
      refine ks_aload_n dX16_lift_25 rfl rfl ?_
      refine ks_getf (T := TX16) (kf := 67) kx_2435 rfl in_X16 cl_X16 (by decide) o1 rfl dX16_lift_26 rfl ?_
      refine ks_tv v67 ?_
      refine ks_iconst (x := nI 1) dX16_lift_29 (by decide) rfl ?_
      refine ks_subN (by omega) dX16_lift_30 rfl ?_
      rw [← et]
      refine ks_icmp_geN (tgt := 68) (by omega) (by omega) dX16_lift_31 (by decide) rfl (fun h1 => absurd h1 (by omega)) (fun h1 => ?_)
      obtain ⟨r2, g2, c1, c2, c3, c4, -⟩ := hx (c + 1) (by omega)
      have f1 : f (c + 1) = some r2 := by rw [hf, if_pos (by omega)]; exact c1
      have s1 : s (c + 1) = sz (c + 1) := by rw [hs, if_pos (by omega)]
      have r21 := hu.at c2 (by simp only [List.mem_cons, List.not_mem_nil, or_false, not_or]; exact ⟨ks_ne c2 (hT.1 0 (by decide)) (fun h => by cases h), ks_ne c2 h362 (fun h => by cases h)⟩)
      refine ks_aload_n dX16_lift_34 rfl rfl ?_
      refine ks_getf (T := TX16) (kf := 65) kx_2433 rfl in_X16 cl_X16 (by decide) o1 rfl dX16_lift_35 rfl ?_
      refine ks_iload_n dX16_lift_38 rfl rfl ?_
      refine ks_aload_n dX16_lift_39 rfl rfl ?_
      refine ks_getf (T := TX16) (kf := 65) kx_2433 rfl in_X16 cl_X16 (by decide) o1 rfl dX16_lift_40 rfl ?_
      refine ks_iload_n dX16_lift_43 rfl rfl ?_
      refine ks_iconst (x := nI 1) dX16_lift_44 (by decide) rfl ?_
      refine ks_addN dX16_lift_45 rfl ?_
      refine ks_aaldN (i := c + 1) (b := r2) (by decide) e1 rfl (by omega) (by decide) f1 dX16_lift_46 rfl ?_
      refine ks_aastAN (i := c) kx_74 e1 r21 (by omega) (by decide) dX16_lift_47 rfl ?_
      refine ks_aload_n dX16_lift_48 rfl rfl ?_
      refine ks_getf (T := TX16) (kf := 66) kx_2434 rfl in_X16 cl_X16 (by decide) ((ks_set_ne _ _ (by decide)).trans o1) rfl dX16_lift_49 rfl ?_
      refine ks_iload_n dX16_lift_52 rfl rfl ?_
      refine ks_aload_n dX16_lift_53 rfl rfl ?_
      refine ks_getf (T := TX16) (kf := 66) kx_2434 rfl in_X16 cl_X16 (by decide) ((ks_set_ne _ _ (by decide)).trans o1) rfl dX16_lift_54 rfl ?_
      refine ks_iload_n dX16_lift_57 rfl rfl ?_
      refine ks_iconst (x := nI 1) dX16_lift_58 (by decide) rfl ?_
      refine ks_addN dX16_lift_59 rfl ?_
      refine ks_ialdN (i := c + 1) ((ks_set_ne _ _ (by decide)).trans e2) rfl (by omega) (by decide) dX16_lift_60 rfl ?_
      rw [s1]
      refine ks_iastNN (i := c) (v := sz (c + 1)) (by decide) ((ks_set_ne _ _ (by decide)).trans e2) (by omega) (by decide) dX16_lift_61 rfl ?_
      refine ks_incN (c := 1) (e := c + 1) dX16_lift_62 rfl (by decide) rfl (by decide) rfl ?_
      refine ks_sub [(2, _), (0, _), (1, _), (3, _), (4, _)] rfl ?_
      refine ks_goto (tgt := 24) dX16_lift_65 (by decide) ?_
      refine ks_sub [(0, _), (1, _), (2, _), (3, _), (4, _)] rfl (ih (c + 1) _ (va_up f c (some r2)) (va_up s c (sz (c + 1))) (by omega) (by omega) ((hu.trans (ks_up_set _ _ (by decide))).trans (ks_up_set _ _ (by decide))) ((ks_set_ne _ _ (by decide)).trans (ks_set_same _ _ _)) (ks_set_same _ _ _) (fun j => ?_) (fun j => ?_))
      · by_cases e : j = c
        · subst e; rw [va_up_self, if_neg (by omega)]; exact c1.symm
        · rw [va_up_ne _ _ e, hf]
          by_cases e2 : j < i ∨ c ≤ j
          · rw [if_pos e2, if_pos (by omega)]
          · rw [if_neg e2, if_neg (by omega)]
      · by_cases e : j = c
        · subst e; rw [va_up_self, if_neg (by omega)]
        · rw [va_up_ne _ _ e, hs]
          by_cases e2 : j < i ∨ c ≤ j
          · rw [if_pos e2, if_pos (by omega)]
          · rw [if_neg e2, if_neg (by omega)]
  refine ks_of (by decide) rfl rfl (Nat.le_of_ble_eq_true rfl) ?_
  show ks_X l G mX16_lift d 0 [(0, .ref 290), (1, .int (nI k))] [] S _
  refine ks_aload_n dX16_lift_0 rfl rfl ?_
  refine ks_getf (T := TX16) (kf := 67) kx_2435 rfl in_X16 cl_X16 (by decide) hO rfl dX16_lift_1 rfl ?_
  refine ks_tv v67 ?_
  refine ks_iconst (x := nI 1) dX16_lift_4 (by decide) rfl ?_
  refine ks_subN (by omega) dX16_lift_5 rfl ?_
  refine ks_iload_n dX16_lift_6 rfl rfl ?_
  refine ks_subN (by omega) dX16_lift_7 rfl ?_
  rw [← ei]
  refine ks_istore_n dX16_lift_8 (by decide) rfl ?_
  refine ks_sub [(2, _), (0, _), (1, _)] rfl ?_
  refine ks_aload_n dX16_lift_9 rfl rfl ?_
  refine ks_getf (T := TX16) (kf := 65) kx_2433 rfl in_X16 cl_X16 (by decide) hO rfl dX16_lift_10 rfl ?_
  refine ks_iload_n dX16_lift_13 rfl rfl ?_
  refine ks_aaldN (i := i) (b := r) (by decide) (hT.1 0 (by decide)) rfl (by omega) (by decide) a1 dX16_lift_14 rfl ?_
  refine ks_astore_n dX16_lift_15 (by decide) rfl ?_
  refine ks_sub [(3, _), (0, _), (1, _), (2, _)] rfl ?_
  refine ks_aload_n dX16_lift_16 rfl rfl ?_
  refine ks_getf (T := TX16) (kf := 66) kx_2434 rfl in_X16 cl_X16 (by decide) hO rfl dX16_lift_17 rfl ?_
  refine ks_iload_n dX16_lift_20 rfl rfl ?_
  refine ks_ialdN (i := i) h362 rfl (by omega) (by decide) dX16_lift_21 rfl ?_
  refine ks_istore dX16_lift_22 (by decide) rfl ?_
  refine ks_sub [(4, _), (0, _), (1, _), (2, _), (3, _)] rfl ?_
  exact ks_sub [(0, _), (1, _), (2, _), (3, _), (4, _)] rfl (loop (t - i) i S (T 0) sz (by omega) (Nat.le_refl _) (ks_up.rf _ _) (hT.1 0 (by decide)) h362 (fun j => (if_pos (by omega)).symm) (fun j => (if_pos (by omega)).symm))
