/-! THE REFERENCE: the middle of the times -/
set_option maxRecDepth 100000 in
set_option maxHeartbeats 800000 in
theorem l_mmIn {l : Launch} {G : ks_G} {d : Nat} {S : ks_S} {V : Nat → Value} (hO : S.2.2 290 = some (rfE V)) {x c q v : Nat} {f : Nat → Nat} {P : Option Value → ks_S → Prop} (hc : c < 11) (hv : v < 2 ^ 32) (hf : ∀ j, j < c → f j < 2 ^ 32) (hk : ∀ (S2 : ks_S) (p : Nat), ks_up S S2 [344] → S2.2.2 344 = some (kL 11 (insF f c v)) → ks_X l G mX16_middle (d + 1) 75 [(0, .ref 290), (1, .int (nI x)), (2, .int (nI c)), (3, .int (nI q)), (4, .long (lN v)), (6, .int (nI p))] [] S2 P) : ∀ (a : Nat) (S1 : ks_S) (g : Nat → Nat), a ≤ c → ks_up S S1 [344] → S1.2.2 344 = some (kL 11 g) → (∀ j, j < a → g j = f j) → (∀ j, a < j → j ≤ c → g j = f (j - 1)) → (∀ j, c < j → g j = f j) → insP f v c = insP f v a → ks_X l G mX16_middle (d + 1) 24 [(0, .ref 290), (1, .int (nI x)), (2, .int (nI c)), (3, .int (nI q)), (4, .long (lN v)), (6, .int (nI a))] [] S1 P := by
  have store : ∀ (S1 : ks_S) (g : Nat → Nat) (a : Nat), a ≤ c → ks_up S S1 [344] → S1.2.2 344 = some (kL 11 g) → (∀ j, j < a → g j = f j) → (∀ j, a < j → j ≤ c → g j = f (j - 1)) → (∀ j, c < j → g j = f j) → insP f v c = a → ks_X l G mX16_middle (d + 1) 66 [(0, .ref 290), (1, .int (nI x)), (2, .int (nI c)), (3, .int (nI q)), (4, .long (lN v)), (6, .int (nI a))] [] S1 P := by
    intro S1 g a ha hu h344 q1 q2 q3 hp
    have hO1 := hu.at hO (by decide)
    refine ks_aload_n dX16_middle_66 rfl rfl ?_
    refine ks_getf (T := TX16) (kf := 53) kx_2421 rfl in_X16 cl_X16 (by decide) hO1 rfl dX16_middle_67 rfl ?_
    refine ks_iload dX16_middle_70 rfl rfl ?_
    refine ks_lload dX16_middle_72 rfl rfl ?_
    refine ks_lastNN (i := a) (v := v) h344 (by omega) (by decide) dX16_middle_74 rfl ?_
    have e9 : va_up g a v = insF f c v := by
      funext j
      unfold insF
      rw [hp]
      by_cases c1 : j = a
      · subst c1; rw [va_up_self, if_neg (by omega), if_pos rfl]
      · rw [va_up_ne _ _ c1]
        by_cases c2 : j < a
        · rw [if_pos c2]; exact q1 j c2
        · rw [if_neg c2, if_neg c1]
          by_cases c3 : j ≤ c
          · rw [if_pos c3]; exact q2 j (by omega) c3
          · rw [if_neg c3]; exact q3 j (by omega)
    rw [e9]
    exact hk _ a (hu.trans (ks_up_set _ _ (by decide))) (ks_set_same _ _ _)
  intro a
  induction a with
  | zero =>
    intro S1 g ha hu h344 q1 q2 q3 hp
    have hO1 := hu.at hO (by decide)
    refine ks_iload dX16_middle_24 rfl rfl ?_
    refine ks_if_leN (tgt := 66) (by decide) dX16_middle_26 (by decide) rfl (fun h1 => ?_) (fun h1 => ?_)
    · exact store S1 g 0 (by omega) hu h344 q1 q2 q3 hp
    · omega
  | succ a ih =>
    intro S1 g ha hu h344 q1 q2 q3 hp
    have hO1 := hu.at hO (by decide)
    refine ks_iload dX16_middle_24 rfl rfl ?_
    refine ks_if_leN (tgt := 66) (by omega) dX16_middle_26 (by decide) rfl (fun h1 => ?_) (fun h1 => ?_)
    · omega
    · refine ks_aload_n dX16_middle_29 rfl rfl ?_
      refine ks_getf (T := TX16) (kf := 53) kx_2421 rfl in_X16 cl_X16 (by decide) hO1 rfl dX16_middle_30 rfl ?_
      refine ks_iload dX16_middle_33 rfl rfl ?_
      refine ks_iconst (x := nI 1) dX16_middle_35 (by decide) rfl ?_
      refine ks_subN (by omega) dX16_middle_36 rfl ?_
      rw [Nat.add_sub_cancel]
      refine ks_laldN (i := a) h344 rfl (by omega) (by decide) dX16_middle_37 rfl ?_
      rw [q1 a (by omega)]
      have hfa := hf a (by omega)
      refine ks_lload dX16_middle_38 rfl rfl ?_
      refine ks_lif_leN (tgt := 66) (by omega) (by omega) dX16_middle_40 rfl dX16_middle_41 (by decide) rfl (fun h2 => ?_) (fun h2 => ?_)
      · exact store S1 g (a + 1) ha hu h344 q1 q2 q3 (by rw [hp, insP, if_neg (by omega)])
      · rw [insP, if_pos (by omega)] at hp
        refine ks_aload_n dX16_middle_44 rfl rfl ?_
        refine ks_getf (T := TX16) (kf := 53) kx_2421 rfl in_X16 cl_X16 (by decide) hO1 rfl dX16_middle_45 rfl ?_
        refine ks_iload dX16_middle_48 rfl rfl ?_
        refine ks_aload_n dX16_middle_50 rfl rfl ?_
        refine ks_getf (T := TX16) (kf := 53) kx_2421 rfl in_X16 cl_X16 (by decide) hO1 rfl dX16_middle_51 rfl ?_
        refine ks_iload dX16_middle_54 rfl rfl ?_
        refine ks_iconst (x := nI 1) dX16_middle_56 (by decide) rfl ?_
        refine ks_subN (by omega) dX16_middle_57 rfl ?_
        rw [Nat.add_sub_cancel]
        refine ks_laldN (i := a) h344 rfl (by omega) (by decide) dX16_middle_58 rfl ?_
        rw [q1 a (by omega)]
        refine ks_lastNN (i := a + 1) (v := f a) h344 (by omega) (by decide) dX16_middle_59 rfl ?_
        refine ks_decN (e := a) dX16_middle_60 rfl (by decide) (by omega) (by decide) rfl ?_
        refine ks_sub [(6, _), (0, _), (1, _), (2, _), (3, _), (4, _)] rfl ?_
        refine ks_goto (tgt := 24) dX16_middle_63 (by decide) ?_
        refine ks_sub [(0, _), (1, _), (2, _), (3, _), (4, _), (6, _)] rfl (ih _ _ (by omega) (hu.trans (ks_up_set _ _ (by decide))) (ks_set_same _ _ _) (fun j hj => ?_) (fun j h3 h4 => ?_) (fun j hj => ?_) hp)
        · rw [va_up_ne _ _ (by omega)]; exact q1 j (by omega)
        · by_cases c1 : j = a + 1
          · subst c1; rw [va_up_self, Nat.add_sub_cancel]
          · rw [va_up_ne _ _ c1]; exact q2 j (by omega) h4
        · rw [va_up_ne _ _ (by omega)]; exact q3 j hj
set_option maxRecDepth 100000 in
set_option maxHeartbeats 800000 in
theorem c_md_middle {l : Launch} {G : ks_G} {d : Nat} {S : ks_S} {V : Nat → Value} {n : Nat} {B : Nat → Bk} (hO : S.2.2 290 = some (rfE V)) (hR : rbS S n B) {x : Nat} {f0 : Nat → Nat} (hW : chW n B) (hx : x < n) (h344 : S.2.2 344 = some (kL 11 f0)) : ks_P l G yX16_middle mX16_middle (d + 2) [.ref 290, .int (nI x)] S (fun z S' => z = some (.long (lN (mdF B x))) ∧ ks_up S S' [344] ∧ ∃ f, S'.2.2 344 = some (kL 11 f)) := by
  obtain ⟨r, hr⟩ : ∃ r, mdL B 11 (x + 1) 0 f0 = r := ⟨_, rfl⟩
  have e0 := @mdL_c B 11 (x + 1) 0 f0 (fun _ => 0) (fun j hj => absurd hj (Nat.not_lt_zero j))
  have e1 : (mdL B 11 (x + 1) 0 f0).1 ≤ 0 + 11 := mdL_pos.2
  have e2 : 1 ≤ (mdL B 11 (x + 1) 0 f0).1 := by
    rw [mdL, if_neg (by omega)]
    exact mdL_pos.1
  have em : mdF B x = r.2 (r.1 / 2) := by
    unfold mdF
    rw [← e0.1, ← e0.2 _ (by omega), hr]
  rw [em]
  rw [hr] at e1 e2
  have loop : ∀ (u c k : Nat) (S1 : ks_S) (f : Nat → Nat), c + u = 11 → k ≤ n → ks_up S S1 [344] → S1.2.2 344 = some (kL 11 f) → (∀ j, j < c → f j < 2 ^ 32) → mdL B u k c f = r → ks_X l G mX16_middle (d + 2) 4 [(0, .ref 290), (1, .int (nI x)), (2, .int (nI c)), (3, .int (nI k - 1))] [] S1 (fun z S' => z = some (.long (lN (r.2 (r.1 / 2)))) ∧ ks_up S S' [344] ∧ ∃ f, S'.2.2 344 = some (kL 11 f)) := by
    intro u
    induction u with
    | zero =>
      intro c k S1 f hcu hk hu h344 hf hm
      have hO1 := hu.at hO (by decide)
      have R1 := hR.up hu (by decide)
      obtain ⟨⟨bf, h341, hbf⟩, hB, hn61⟩ := id R1
      refine ks_iload_n dX16_middle_4 rfl rfl ?_
      refine ks_if_ltD (tgt := 91) (by omega) dX16_middle_5 (by decide) rfl (fun h1 => ?_) (fun h1 => ?_)
      · refine ks_aload_n dX16_middle_91 rfl rfl ?_
        refine ks_getf (T := TX16) (kf := 53) kx_2421 rfl in_X16 cl_X16 (by decide) hO1 rfl dX16_middle_92 rfl ?_
        refine ks_iload_n dX16_middle_95 rfl rfl ?_
        refine ks_iconst (x := nI 2) dX16_middle_96 (by decide) rfl ?_
        refine ks_divN (by omega) (by decide) (by decide) dX16_middle_97 rfl ?_
        refine ks_laldN (i := c / 2) h344 rfl (by omega) (by decide) dX16_middle_98 rfl ?_
        refine ks_lret rfl dX16_middle_99 ?_
        have er : r = (c, f) := by rw [← hm]; rfl
        rw [er]
        exact ⟨rfl, hu, f, h344⟩
      · refine ks_iload_n dX16_middle_8 rfl rfl ?_
        refine ks_bipush (x := nI 11) dX16_middle_9 (by decide) rfl ?_
        refine ks_icmp_geN (tgt := 91) (by omega) (by decide) dX16_middle_11 (by decide) rfl (fun h2 => ?_) (fun h2 => ?_)
        · refine ks_aload_n dX16_middle_91 rfl rfl ?_
          refine ks_getf (T := TX16) (kf := 53) kx_2421 rfl in_X16 cl_X16 (by decide) hO1 rfl dX16_middle_92 rfl ?_
          refine ks_iload_n dX16_middle_95 rfl rfl ?_
          refine ks_iconst (x := nI 2) dX16_middle_96 (by decide) rfl ?_
          refine ks_divN (by omega) (by decide) (by decide) dX16_middle_97 rfl ?_
          refine ks_laldN (i := c / 2) h344 rfl (by omega) (by decide) dX16_middle_98 rfl ?_
          refine ks_lret rfl dX16_middle_99 ?_
          have er : r = (c, f) := by rw [← hm]; rfl
          rw [er]
          exact ⟨rfl, hu, f, h344⟩
        · omega
    | succ u ih =>
      intro c k S1 f hcu hk hu h344 hf hm
      have hO1 := hu.at hO (by decide)
      have R1 := hR.up hu (by decide)
      obtain ⟨⟨bf, h341, hbf⟩, hB, hn61⟩ := id R1
      refine ks_iload_n dX16_middle_4 rfl rfl ?_
      refine ks_if_ltD (tgt := 91) (by omega) dX16_middle_5 (by decide) rfl (fun h1 => ?_) (fun h1 => ?_)
      · refine ks_aload_n dX16_middle_91 rfl rfl ?_
        refine ks_getf (T := TX16) (kf := 53) kx_2421 rfl in_X16 cl_X16 (by decide) hO1 rfl dX16_middle_92 rfl ?_
        refine ks_iload_n dX16_middle_95 rfl rfl ?_
        refine ks_iconst (x := nI 2) dX16_middle_96 (by decide) rfl ?_
        refine ks_divN (by omega) (by decide) (by decide) dX16_middle_97 rfl ?_
        refine ks_laldN (i := c / 2) h344 rfl (by omega) (by decide) dX16_middle_98 rfl ?_
        refine ks_lret rfl dX16_middle_99 ?_
        have er : r = (c, f) := by rw [← hm]; rw [mdL, if_pos h1]
        rw [er]
        exact ⟨rfl, hu, f, h344⟩
      · refine ks_iload_n dX16_middle_8 rfl rfl ?_
        refine ks_bipush (x := nI 11) dX16_middle_9 (by decide) rfl ?_
        refine ks_icmp_geN (tgt := 91) (by omega) (by decide) dX16_middle_11 (by decide) rfl (fun h2 => ?_) (fun h2 => ?_)
        · omega
        · rw [mdL, if_neg h1] at hm
          obtain ⟨q, rfl⟩ : ∃ q, k = q + 1 := ⟨k - 1, by omega⟩
          rw [Nat.add_sub_cancel] at hm
          obtain ⟨ox, pdx, ⟨ghx, ehx, khx, ahx⟩, wkx, bdx⟩ := hB q (by omega)
          have tv := (hB q (by omega)).num.2
          rw [nI_pred]
          refine ks_aload_n dX16_middle_14 rfl rfl ?_
          refine ks_iload_n dX16_middle_15 rfl rfl ?_
          refine ks_callV (n := 1) (M' := mX16_timeOf) (c_md_timeOf (d := d) hO1 R1 (x := q) (by omega)) hO1 cl_X16 rfl kx_2024 kx_2026 kxp_69 kx_30 kx_2027 (by decide +kernel) rfl (by decide) (Nat.le_of_ble_eq_true rfl) rfl dX16_middle_16 rfl (fun z1 T1 y1 => ?_)
          obtain ⟨rfl, hT⟩ := y1
          obtain rfl := hT.symm
          refine ks_lstore dX16_middle_19 (by decide) rfl ?_
          refine ks_sub [(4, _), (0, _), (1, _), (2, _), (3, _)] rfl ?_
          refine ks_iload_n dX16_middle_21 rfl rfl ?_
          refine ks_istore dX16_middle_22 (by decide) rfl ?_
          refine ks_sub [(6, _), (0, _), (1, _), (2, _), (3, _), (4, _)] rfl ?_
          refine ks_sub [(0, _), (1, _), (2, _), (3, _), (4, _), (6, _)] rfl (l_mmIn (d := d + 1) hO1 (by omega) tv hf (fun S2 p u2 e2 => ?_) c S1 f (Nat.le_refl _) (ks_up.rf _ _) h344 (fun j _ => rfl) (fun j h3 h4 => by omega) (fun j _ => rfl) rfl)
          have hO2 := u2.at hO1 (by decide)
          have R2 := R1.up u2 (by decide)
          obtain ⟨⟨bf, h341, hbf⟩, hB, hn61⟩ := id R2
          obtain ⟨oy, pdy, ⟨ghy, ehy, khy, ahy⟩, wky, bdy⟩ := hB q (by omega)
          refine ks_incN (c := 1) (e := c + 1) dX16_middle_75 rfl (by decide) rfl (by decide) rfl ?_
          refine ks_sub [(2, _), (0, _), (1, _), (3, _), (4, _), (6, _)] rfl ?_
          refine ks_aload_n dX16_middle_78 rfl rfl ?_
          refine ks_getf (T := TX16) (kf := 46) kx_2414 rfl in_X16 cl_X16 (by decide) hO2 rfl dX16_middle_79 rfl ?_
          refine ks_iload_n dX16_middle_82 rfl rfl ?_
          refine ks_aaldN (i := q) (b := (bkN (B q))) (by decide) h341 rfl (by omega) (by decide) (hbf q (by omega)) dX16_middle_83 rfl ?_
          refine ks_getN (T := TX12) (kf := 5) kx_2065 rfl in_X12 cl_X12 (by decide) oy rfl dX16_middle_84 rfl ?_
          refine ks_istore_n dX16_middle_87 (by decide) rfl ?_
          refine ks_sub [(3, _), (0, _), (1, _), (2, _), (4, _), (6, _)] rfl ?_
          refine ks_goto (tgt := 4) dX16_middle_88 (by decide) ?_
          exact ks_sub [(0, _), (1, _), (2, _), (3, _)] rfl (ih (c + 1) (bkP (B q)) S2 _ (by omega) (by by_cases q0 : q = 0; (subst q0; rw [hW.1]; omega); (have := hW.2 q (by omega) (by omega); omega)) (hu.trans u2) e2 (insF_lt hf tv) hm)
  refine ks_of (by decide) rfl rfl (Nat.le_of_ble_eq_true rfl) ?_
  show ks_X l G mX16_middle (d + 2) 0 [(0, .ref 290), (1, .int (nI x))] [] S _
  refine ks_iconst (x := nI 0) dX16_middle_0 (by decide) rfl ?_
  refine ks_istore_n dX16_middle_1 (by decide) rfl ?_
  refine ks_sub [(2, _), (0, _), (1, _)] rfl ?_
  refine ks_iload_n dX16_middle_2 rfl rfl ?_
  refine ks_istore_n dX16_middle_3 (by decide) rfl ?_
  refine ks_sub [(3, _), (0, _), (1, _), (2, _)] rfl ?_
  exact ks_sub [(0, _), (1, _), (2, _), (3, .int (nI (x + 1) - 1))] (by rw [nI_pred]; rfl) (loop 11 0 (x + 1) S f0 (by decide) (by omega) (ks_up.rf _ _) h344 (fun j hj => absurd hj (Nat.not_lt_zero j)) hr)
