/-! THE REFERENCE: its constructor, the first transaction -/
theorem mqB.fst {S : ks_S} {V : Nat → Value} {F : Nat} {Gp : Pt} (h : mqB S V F Gp) : S.2.2 290 = some (rfE V) ∧ (∃ xs ys vs, rsQ S V F xs ys vs) ∧ lowS S ∧ mhR S ∧ mrR S ∧ ccS S Gp ∧ (∃ X, buX S V 373 16384 91 X) ∧ (∃ c, ctX S V c) ∧ (S.2.2 369 = some (kN 21 nedR) ∧ ∃ dn, S.2.2 368 = some (kZ 1601 dn)) ∧ shp S (305, 0, 32) ∧ shp S (336, 0, 32) ∧ shp S (370, 0, 32) := by
  obtain ⟨xs, ys, vs, h1, h2, ⟨⟨h3, h4⟩, h5, h6, h7, h8⟩, ⟨h9, hA, hB, hC⟩, hD, hE, hF⟩ := h
  exact ⟨h1, ⟨xs, ys, vs, h2⟩, hE, h3, hA, h8, h6, h7, ⟨hD, hF⟩, h4, h5, hC⟩
theorem rqW.mqb {S S1 : ks_S} {V V1 : Nat → Value} {F F1 : Nat} {Gp : Pt} {L : List Nat} (h : rqW S V F Gp) (fr : frS L S S1) (mb : mqB S1 V1 F1 Gp) (a7 : 337 ∉ L) (a8 : ∀ x ∈ L, x < 346 ∨ 353 < x) (a9 : ∀ x ∈ L, x < 534 ∨ 540 < x) (a10 : ∀ p ∈ shL, p.1 ∈ L → p.1 = 305 ∨ p.1 = 336 ∨ p.1 = 370 ∨ shp S1 p) : rqW S1 V1 F1 Gp := by
  have fk := fr.k
  obtain ⟨h1, h2, h3, h4, h5, h6, h7, h8, h9, hA, hB, hC, hD⟩ := h
  obtain ⟨m1, m2, m3, m4, m5, m6, m7, m8, m9, mA, mB, mC⟩ := mb.fst
  refine ⟨m1, m2, m3, m4, m5, m6, m7, m8, m9, (hA.sf fk a7 : wA (S.1, S.2.1, S1.2.2) 337 (tg_num 545259519)), ?_, ?_, fun p hp => ?_⟩
  · obtain ⟨w0, c0, A, gi, p1, p2, p3, p4⟩ := hB
    exact ⟨w0, c0, A, gi, fr _ _ p1 (fun hm => by have := a8 _ hm; omega) (no52_ne rfl), fun r hr => fr _ _ (p2 r hr) (fun hm => by have := a8 _ hm; omega) (no52_ne rfl), fr _ _ p3 (fun hm => by have := a8 _ hm; omega) (no52_ne rfl), p4⟩
  · obtain ⟨⟨v, p1⟩, p2⟩ := hC
    refine ⟨⟨v, fr _ _ p1 (fun hm => by have := a9 _ hm; omega) (no52_ne rfl)⟩, fun r hr => ?_⟩
    obtain ⟨f, p3⟩ := p2 r hr
    exact ⟨f, fr _ _ p3 (fun hm => by have := a9 _ hm; omega) (no52_ne rfl)⟩
  · by_cases c : p.1 ∈ L
    · rcases a10 p hp c with e | e | e | e
      · have : ∀ p ∈ shL, p.1 = 305 → p = (305, 0, 32) := by decide
        rw [this p hp e]; exact mA
      · have : ∀ p ∈ shL, p.1 = 336 → p = (336, 0, 32) := by decide
        rw [this p hp e]; exact mB
      · have : ∀ p ∈ shL, p.1 = 370 → p = (370, 0, 32) := by decide
        rw [this p hp e]; exact mC
      · exact e
    · exact (hD p hp).fr fr c (shL_n p hp)
theorem rd_low {S : ks_S} {t : Nat} {D : Nat → dTx} (h : rdS S t D) : ∀ x ∈ LDw, ∃ e, S.2.2 x = some e ∧ ∀ g, e ≠ kB 520 g := fun x hx => by
  obtain ⟨-, ver, loc, inp, out, ids, ix, seq, iln, val, oln, sc, so, ⟨⟨z4, z5, z6, z7⟩, ⟨z8, k8⟩, ⟨z9, zA, zB, zC⟩, ⟨zD, zE⟩, zF, kF, zG, kG, zH⟩, -⟩ := h
  have hx := mem_LDw.mp hx
  have hk : x = 374 ∨ x = 375 ∨ x = 376 ∨ x = 377 ∨ x = 378 ∨ x = 379 ∨ x = 380 ∨ (381 ≤ x ∧ x < 453) ∨ x = 453 ∨ x = 454 ∨ x = 455 ∨ (456 ≤ x ∧ x < 528) ∨ x = 528 := by omega
  rcases hk with rfl | rfl | rfl | rfl | rfl | rfl | rfl | hk | rfl | rfl | rfl | hk | rfl
  · exact ⟨_, z4, no52_ne rfl⟩
  · exact ⟨_, z5, no52_ne rfl⟩
  · exact ⟨_, z6, no52_ne rfl⟩
  · exact ⟨_, z7, no52_ne rfl⟩
  · exact ⟨_, z8, no52_ne rfl⟩
  · exact ⟨_, z9, no52_ne rfl⟩
  · exact ⟨_, zD, no52_ne rfl⟩
  · have e := zF (x - 381) (by omega)
    rw [show 381 + (x - 381) = x by omega] at e
    exact ⟨_, e, no52_ne rfl⟩
  · exact ⟨_, zA, no52_ne rfl⟩
  · exact ⟨_, zB, no52_ne rfl⟩
  · exact ⟨_, zE, no52_ne rfl⟩
  · have e := zG (x - 456) (by omega)
    rw [show 456 + (x - 456) = x by omega] at e
    exact ⟨_, e, no52_ne rfl⟩
  · exact ⟨_, zC, no52_ne rfl⟩
def fsD : Nat → dTx := fun _ => (lN 1, lN 0, [], [])
set_option maxRecDepth 100000 in
set_option maxHeartbeats 800000 in
theorem l_i14 {l : Launch} {G : ks_G} {d : Nat} {S : ks_S} {V : Nat → Value} {F : Nat} {Gp : Pt} (h : rqW S V F Gp) (hz : rdZ S) (h531 : S.2.2 531 = some (kB 1600 (fun _ => 0))) {P9 : Option Value → ks_S → Prop} (hk : ∀ (S1 : ks_S) (V1 : Nat → Value) (D : Nat → dTx), rqW S1 V1 F Gp → rdS S1 1 D → D 0 = fsT → V1 94 = .int (nI 1) → V1 93 = .long (lN 1000000) → V1 92 = .int (nI 0 - 1) → buX S1 V1 531 1600 110 [] → pbK (531 :: LDw) [92, 93, 94, 110] S S1 V V1 → ks_X l G mX16_init (d + 1) 3224 [(0, .ref 290)] [] S1 P9) : ks_X l G mX16_init (d + 1) 3153 [(0, .ref 290)] [] S P9 := by
  obtain ⟨⟨z4, z5, z6, z7⟩, ⟨z8, k8⟩, ⟨z9, zA, zB, zC⟩, ⟨zD, zE⟩, zF, kF, zG, kG, zH⟩ := id hz
  have hO := h.1
  refine ks_aload_n dX16_init_3153 rfl rfl ?_
  refine ks_ldc2 dX16_init_3154 kx_1952 rfl ?_
  refine ks_tl (y := lN 1000000) rfl ?_
  refine ks_putf (T := TX16) (kf := 93) kx_2461 rfl in_X16 tyX16_ok nmX16 cl_X16 (by decide) hO (Nat.le_of_ble_eq_true rfl) rfl rfl rfl rfl dX16_init_3157 rfl ?_
  refine md_put mdp_93 ?_
  refine ks_aload_n dX16_init_3160 rfl rfl ?_
  refine ks_iconst (x := (-1)) dX16_init_3161 (by decide) rfl ?_
  refine ks_putf (T := TX16) (kf := 92) kx_2460 rfl in_X16 tyX16_ok nmX16 cl_X16 (by decide) (ks_set_same _ _ _) (Nat.le_of_ble_eq_true rfl) rfl rfl rfl rfl dX16_init_3162 rfl ?_
  refine md_put mdp_92 ?_
  refine ks_aload_n dX16_init_3165 rfl rfl ?_
  refine ks_getf (T := TX16) (kf := 109) kx_2477 rfl in_X16 cl_X16 (by decide) (ks_set_same _ _ _) rfl dX16_init_3166 rfl ?_
  refine ks_iconst (x := nI 0) dX16_init_3169 (by decide) rfl ?_
  refine ks_iconst (x := nI 0) dX16_init_3170 (by decide) rfl ?_
  refine ks_bastB (i := 0) (c := 0) ((ks_set_ne _ _ (by decide)).trans ((ks_set_ne _ _ (by decide)).trans h531)) rfl (by decide) (by decide) (ks_by_nI _) dX16_init_3171 rfl ?_
  refine ks_aload_n dX16_init_3172 rfl rfl ?_
  refine ks_getf (T := TX16) (kf := 109) kx_2477 rfl in_X16 cl_X16 (by decide) ((ks_set_ne _ _ (by decide)).trans (ks_set_same _ _ _)) rfl dX16_init_3173 rfl ?_
  refine ks_iconst (x := nI 1) dX16_init_3176 (by decide) rfl ?_
  refine ks_iconst (x := nI 0) dX16_init_3177 (by decide) rfl ?_
  refine ks_bastB (i := 1) (c := 0) (ks_set_same _ _ _) rfl (by decide) (by decide) (ks_by_nI _) dX16_init_3178 rfl ?_
  refine ks_aload_n dX16_init_3179 rfl rfl ?_
  refine ks_iconst (x := nI 2) dX16_init_3180 (by decide) rfl ?_
  refine ks_putf (T := TX16) (kf := 110) kx_2478 rfl in_X16 tyX16_ok nmX16 cl_X16 (by decide) ((ks_set_ne _ _ (by decide)).trans ((ks_set_ne _ _ (by decide)).trans (ks_set_same _ _ _))) (Nat.le_of_ble_eq_true rfl) rfl rfl rfl rfl dX16_init_3181 rfl ?_
  refine md_put mdp_110 ?_
  refine ks_aload_n dX16_init_3184 rfl rfl ?_
  refine ks_iconst (x := nI 1) dX16_init_3185 (by decide) rfl ?_
  refine ks_putf (T := TX16) (kf := 94) kx_2462 rfl in_X16 tyX16_ok nmX16 cl_X16 (by decide) (ks_set_same _ _ _) (Nat.le_of_ble_eq_true rfl) rfl rfl rfl rfl dX16_init_3186 rfl ?_
  refine md_put mdp_94 ?_
  refine ks_aload_n dX16_init_3189 rfl rfl ?_
  refine ks_getf (T := TX16) (kf := 95) kx_2463 rfl in_X16 cl_X16 (by decide) (ks_set_same _ _ _) rfl dX16_init_3190 rfl ?_
  refine ks_iconst (x := nI 0) dX16_init_3193 (by decide) rfl ?_
  refine ks_lconst (x := lN 1) dX16_init_3194 (by decide) rfl ?_
  refine ks_lastN (i := 0) ((ks_set_ne _ _ (by decide)).trans ((ks_set_ne _ _ (by decide)).trans ((ks_set_ne _ _ (by decide)).trans ((ks_set_ne _ _ (by decide)).trans ((ks_set_ne _ _ (by decide)).trans ((ks_set_ne _ _ (by decide)).trans z4)))))) rfl (by decide) (by decide) dX16_init_3195 rfl ?_
  refine ks_aload_n dX16_init_3196 rfl rfl ?_
  refine ks_iconst (x := nI 0) dX16_init_3197 (by decide) rfl ?_
  refine ks_ldc2 dX16_init_3198 kx_1953 rfl ?_
  refine ks_tl (y := lN 4294967295) rfl ?_
  refine ks_nm (fun T0 e0 => ?_)
  obtain ⟨V0, eV0⟩ : ∃ V0, V0 = (va_up (va_up (va_up (va_up V 93 (.long (lN 1000000))) 92 (.int (-1))) 110 (.int (nI 2))) 94 (.int (nI 1))) := ⟨_, rfl⟩
  have u0 : ks_up S T0 [290, 531, 374] := by rw [e0]; exact ((((((ks_up_set (L := [290, 531, 374]) _ _ (by decide)).trans (ks_up_set _ _ (by decide))).trans (ks_up_set _ _ (by decide))).trans (ks_up_set _ _ (by decide))).trans (ks_up_set _ _ (by decide))).trans (ks_up_set _ _ (by decide))).trans (ks_up_set _ _ (by decide))
  have o0 : T0.2.2 290 = some (rfE V0) := by rw [e0, eV0]; exact ((ks_set_ne _ _ (by decide)).trans (ks_set_same _ _ _))
  have t0 : T0.2.2 531 = some (kB 1600 (va_up (va_up (fun _ => 0) 0 0) 1 0)) := by rw [e0]; exact ((ks_set_ne _ _ (by decide)).trans ((ks_set_ne _ _ (by decide)).trans ((ks_set_ne _ _ (by decide)).trans (ks_set_same _ _ _))))
  have d0 : T0.2.2 374 = some (kJ 12 (va_up (fun _ => lN 0) 0 (lN 1))) := by rw [e0]; exact (ks_set_same _ _ _)
  clear e0
  have p0 : pbK (531 :: LDw) [92, 93, 94, 110] S T0 V V0 := by
    refine ⟨u0.mono (fun a ha => ?_), o0, fun k hk => ?_⟩
    · simp only [List.mem_cons, List.not_mem_nil, or_false] at ha
      rcases ha with rfl | rfl | rfl
      · exact List.mem_cons_self
      · exact List.mem_cons_of_mem _ List.mem_cons_self
      · exact List.mem_cons_of_mem _ (List.mem_cons_of_mem _ (mem_LDw.mpr (by decide)))
    · simp only [List.mem_cons, List.not_mem_nil, or_false, not_or] at hk
      rw [eV0, va_up_ne _ _ hk.2.2.1, va_up_ne _ _ hk.2.2.2, va_up_ne _ _ hk.1, va_up_ne _ _ hk.2.1]
  have B0 : buX T0 V0 531 1600 110 [0, 0] := by
    refine ⟨by rw [eV0]; rfl, _, t0, fun j => ?_, by decide, rfl⟩
    unfold va_up
    split
    · decide
    · split
      · decide
      · exact (by decide : (0 : Nat) < 256)
  have D0 : rdS T0 1 fsD := by
    refine ⟨by decide, _, _, _, _, _, _, _, _, _, _, _, _, ⟨⟨d0, u0.at z5 (by decide), u0.at z6 (by decide), u0.at z7 (by decide)⟩, ⟨u0.at z8 (by decide), k8⟩, ⟨u0.at z9 (by decide), u0.at zA (by decide), u0.at zB (by decide), u0.at zC (by decide)⟩, ⟨u0.at zD (by decide), u0.at zE (by decide)⟩, fun r hr => u0.at (zF r hr) (by simp only [List.mem_cons, List.not_mem_nil, or_false]; omega), kF, fun r hr => u0.at (zG r hr) (by simp only [List.mem_cons, List.not_mem_nil, or_false]; omega), kG, zH⟩, fun i hi => ?_⟩
    have : i = 0 := by omega
    subst this
    exact ⟨rfl, Nat.zero_le _, Nat.zero_le _, fun j hj => absurd hj (Nat.not_lt_zero _), fun j hj => absurd hj (Nat.not_lt_zero _)⟩
  refine ks_callV (n := 2) (M' := mX16_addInput) (c_md_addInput (d := d) (i := 0) (T := [0, 0]) (D := fsD) (q := lN 4294967295) o0 B0 D0 (by decide) (by decide)) o0 cl_X16 rfl kx_1954 kx_1956 kxp_53 kx_30 kx_1957 (by decide +kernel) rfl (by decide) (Nat.le_of_ble_eq_true rfl) rfl dX16_init_3201 rfl (fun z1 T1 y1 => ?_)
  obtain ⟨rfl, V1, p1, B1, D1⟩ := y1
  obtain ⟨v1, g1, e1, k1, -, -⟩ := B1
  refine ks_aload_n dX16_init_3204 rfl rfl ?_
  refine ks_getf (T := TX16) (kf := 109) kx_2477 rfl in_X16 cl_X16 (by decide) p1.2.1 rfl dX16_init_3205 rfl ?_
  refine ks_iconst (x := nI 0) dX16_init_3208 (by decide) rfl ?_
  refine ks_bipush (x := nI 81) dX16_init_3209 (by decide) rfl ?_
  refine ks_bastB (i := 0) (c := 81) e1 rfl (by decide) (by decide) (ks_by_nI _) dX16_init_3211 rfl ?_
  refine ks_aload_n dX16_init_3212 rfl rfl ?_
  refine ks_iconst (x := nI 1) dX16_init_3213 (by decide) rfl ?_
  refine ks_putf (T := TX16) (kf := 110) kx_2478 rfl in_X16 tyX16_ok nmX16 cl_X16 (by decide) ((ks_set_ne _ _ (by decide)).trans p1.2.1) (Nat.le_of_ble_eq_true rfl) rfl rfl rfl rfl dX16_init_3214 rfl ?_
  refine md_put mdp_110 ?_
  refine ks_aload_n dX16_init_3217 rfl rfl ?_
  refine ks_ldc2 dX16_init_3218 kx_1958 rfl ?_
  refine ks_tl (y := lN 5000000000) rfl ?_
  refine ks_nm (fun T2 e2 => ?_)
  obtain ⟨V2, eV2⟩ : ∃ V2, V2 = va_up V1 110 (.int (nI 1)) := ⟨_, rfl⟩
  have u2 : ks_up T1 T2 [290, 531] := by rw [e2]; exact (ks_up_set (L := [290, 531]) _ _ (by decide)).trans (ks_up_set _ _ (by decide))
  have o2 : T2.2.2 290 = some (rfE V2) := by rw [e2, eV2]; exact (ks_set_same _ _ _)
  have t2 : T2.2.2 531 = some (kB 1600 (va_up g1 0 81)) := by rw [e2]; exact ((ks_set_ne _ _ (by decide)).trans (ks_set_same _ _ _))
  clear e2
  have p2 : pbK [531] [110] T1 T2 V1 V2 := ⟨u2, o2, fun k hk => by rw [eV2]; exact va_up_ne _ _ (fun e => hk (by rw [e]; decide))⟩
  have B2 : buX T2 V2 531 1600 110 [81] := by
    refine ⟨by rw [eV2]; rfl, _, t2, fun j => ?_, by decide, ?_⟩
    · by_cases hj : j = 0
      · rw [hj, va_up_self]; decide
      · rw [va_up_ne _ _ hj]; exact k1 j
    · rfl
  have D2 := D1.up u2 (by decide)
  have v94 : V2 94 = .int (nI 1) := by
    rw [eV2, va_up_ne _ _ (by decide), p1.2.2 94 (by decide), eV0]
    exact va_up_self _ _ _
  refine ks_callV (n := 1) (M' := mX16_addOutput) (c_md_addOutput (d := d) (i := 0) (T := [81]) (v := lN 5000000000) o2 B2 v94 D2 (by decide) (by decide)) o2 cl_X16 rfl kx_1959 kx_1961 kxp_54 kx_30 kx_1962 (by decide +kernel) rfl (by decide) (Nat.le_of_ble_eq_true rfl) rfl dX16_init_3221 rfl (fun z3 T3 y3 => ?_)
  obtain ⟨rfl, V3, p3, B3, D3⟩ := y3
  have hmo : ∀ a, a ∈ LDw → a ∈ 531 :: LDw := fun a ha => List.mem_cons_of_mem _ ha
  have pp : pbK (531 :: LDw) [92, 93, 94, 110] S T3 V V3 := ((p0.trans (p1.mono hmo (by decide))).trans (p2.mono (fun a ha => by rw [List.mem_singleton] at ha; rw [ha]; exact List.mem_cons_self) (by decide))).trans (p3.mono hmo (by decide))
  have vk : ∀ k, k ≠ 110 → V3 k = V0 k := fun k hk => by
    have hk1 : k ∉ ([110] : List Nat) := by rw [List.mem_singleton]; exact hk
    rw [p3.2.2 k hk1, p2.2.2 k hk1, p1.2.2 k hk1]
  have lo : ∀ x ∈ 531 :: LDw, ∃ e, T3.2.2 x = some e ∧ ∀ g, e ≠ kB 520 g := fun x hx => by
    rcases List.mem_cons.mp hx with rfl | hx
    · obtain ⟨_, g, e, _⟩ := B3
      exact ⟨_, e, no52_ne rfl⟩
    · exact rd_low D3 x hx
  refine hk T3 V3 _ (h.ob pp (by decide) (fun x hx => ?_) lo) D3 rfl ?_ ?_ ?_ B3 pp
  · rcases List.mem_cons.mp hx with rfl | hx
    · omega
    · have := mem_LDw.mp hx; omega
  · rw [vk _ (by decide), eV0]; exact va_up_self _ _ _
  · rw [vk _ (by decide), eV0]; rfl
  · rw [vk _ (by decide), eV0]
    show Value.int (-1) = _
    rw [show nI 0 - 1 = -1 by decide]
