/-! JUDGE on both sides: a block that is kept -/
theorem q_lt {B : Nat → Bk} {n : Nat} {T : List Nat} (h : 0 < inQ B n T) : inQ B n T - 1 < n := plD_lt (by unfold inQ at h; omega)
set_option maxHeartbeats 3200000 in
theorem op_jk {l : Launch} {G : ks_G} {o c : Nat} {S : ks_S} (htr : l.stackTraces = false) (hc : c ≤ 512) {n best : Nat} {Bc Br : Nat → Bk} {C R : List Nat} {t q : Nat} {dt : Int64} {rs : Nat} {Ds D : Nat → dTx} {T : List Nat} {V : Nat → Value} {F : Nat} (hC : cqS S n best Bc t q dt rs Ds T) (hR : rqS S V F n best Br C R t D T q dt rs) (hr : best < n ∧ t ≤ 12 ∧ q < n ∧ lwR n Bc Br ∧ (∀ i, i < t → D i = Ds i) ∧ kkK n best Bc Br C) {f : Nat → Int64} (ho : S.2.2 o = some (kJ 1 f)) (ho5 : 565 ≤ o) (hoS : o < S.1) (r1 : S.1 + F ≤ 4000 + 6 * c + 100 * n) (r2 : S.2.1 + 520 * F ≤ 2100000 + 2100 * c + 30000 * n) (hin : inF Bc n T = nI 0) (hn : n < 60) : opI l G kkK o c yL_judge mL_judge hL_judge yX16_judge mX16_judge [] S := by
  have h0 := hC.1.1
  have hT := hC.1.2.2.1
  have hB9 := lw_B
  obtain ⟨cc, tk, hX⟩ := hC.2.2.2.2.1
  have hS9 : S.1 + F + 150 < ks_B := by omega
  have hS5 : 565 ≤ S.1 := hR.2.2.2.2.2.2.2.2.2.2
  have hKK := hr.2.2.2.2.2
  obtain ⟨kW, kV, kH, kt, kd⟩ := kk_B n best Bc Br C hKK
  have eR := hr.2.2.2.1
  have hei : ∀ i, i < n → bkH (Bc i) < 700 := fun i hi => (kV i hi).1
  obtain ⟨sl, hF, hN⟩ := hC.2.2.2.2.2.1
  obtain ⟨N9, hTg⟩ := hC.2.1.2.2
  obtain ⟨f43, h43⟩ := hC.2.2.1.1
  obtain ⟨f48, h48⟩ := hC.2.2.1.2.1
  obtain ⟨g49, k49, h49⟩ := hC.2.2.1.2.2.1
  obtain ⟨f50, h50⟩ := hC.2.2.1.2.2.2.1
  obtain ⟨f51, h51⟩ := hC.2.2.1.2.2.2.2.1
  have eI := inF_e eR n T
  obtain ⟨-, gT9, -, kT9, lT9, mT9⟩ := hR.2.2.2.2.2.2.2.1
  have kT := kO_T kT9 mT9
  have g3 := (in_good hin).2.2.1
  obtain ⟨p, hq⟩ : ∃ p, inQ Bc n T = p + 1 := ⟨inQ Bc n T - 1, by omega⟩
  have hp : p < n := by have := q_lt g3; omega
  have hqr : inQ Br n T = p + 1 := (inQ_e eR n T).trans hq
  obtain ⟨w1, w2, w3⟩ := good_w hKK hin hq hp kT
  have e29 : (2 : Nat) ^ 29 + 2 ^ 23 < 2 ^ 63 := by decide
  have hwp : bkW (Bc (inQ Bc n T - 1)) = bkW (Bc p) := by rw [hq, Nat.add_sub_cancel]
  have hwk : 2 ^ 256 / (tg_num (btB T) + 1) < 2 ^ 63 := by omega
  have hwb : bkW (Bc best) < 2 ^ 63 := by omega
  have hwn : bkW (Bc (inQ Bc n T - 1)) + 2 ^ 256 / (tg_num (btB T) + 1) < 2 ^ 63 := by rw [hwp]; omega
  have n0 : 0 < n := by omega
  have kn : ∀ b, bkN (kpK Bc n T b) = b := fun _ => rfl
  have h00 : bkC (Bc 0) ≠ none := by
    obtain ⟨L, e⟩ := hC.2.2.2.2.2.2.2.2.1
    rw [e]
    intro x
    cases x
  -- the reference's works
  have wR : ∀ x : Nat, bkW (rkB Br T p x) = bkW (Bc (inQ Bc n T - 1)) + 2 ^ 256 / (tg_num (btB T) + 1) := fun x => by
    show (2 ^ 256 / (tg_num (btB T) + 1) + bkW (Br p)) % 2 ^ 256 = _
    rw [(eR p).2.2.2.1, hwp]
    generalize 2 ^ 256 / (tg_num (btB T) + 1) = y at *
    rw [Nat.mod_eq_of_lt (Nat.lt_of_le_of_lt (Nat.add_le_add w1 w2) (by decide)), Nat.add_comm]
  have wB : bkW (Br best) = bkW (Bc best) := (eR best).2.2.2.1
  -- from the look at the block to a state of both sides
  have mk : ∀ {S2 S' : ks_S} {b bst : Nat} {Bf : Nat → Bk} {z : Option Value}, inP S n best cc tk Bc sl T z S2 → (sl = some b ∨ (sl = none ∧ b = S.1)) → ks_ex S2 S' (LJg n b (va_up Bc n (kpK Bc n T b))) → (S'.1 ≤ S2.1 + 60 ∧ S'.2.1 ≤ S2.2.1 + 24000) → bfS S' 1 2 1600 (some []) → mcZ S' → tvR S' → (∃ N, tg_ok S' N) → (∃ f, S'.2.2 43 = some (kN 60 f)) → (∃ f, S'.2.2 50 = some (kN 580 f)) → (∃ f, S'.2.2 51 = some (kN 40 f)) → (∃ cc tk, chX S' (n + 1) bst cc tk Bf) → chF S' (n + 1) Bf none → chT S' (n + 1) Bf → (∀ i, bkN (Bf i) = bkN (va_up Bc n (kpK Bc n T b) i)) → (∀ i c, i < n + 1 → bkC (Bf i) = some c → (i < n ∧ bkC (Bc i) = some c) ∨ 565 ≤ c.1) → (∀ c, bkC (Bc 0) = some c → bkC (Bf 0) = some c) → cqS S' (n + 1) bst Bf t q dt rs Ds [] ∧ rqS (ks_cl S') V F n best Br C R t D T q dt rs ∧ S'.2.2 o = some (kJ 1 f) ∧ (S.1 ≤ S'.1 ∧ S'.1 ≤ S.1 + 65 ∧ S'.2.1 ≤ S.2.1 + 26040) ∧ slA n Bc b := by
    intro S2 S' b bst Bf z hip hsl u2 cnt a1 mz tv tg a43 a50 a51 cx cf ct eN hcc hc0
    obtain ⟨-, b9, u, ⟨z1, z2⟩, hX2, hF2, hsl2, hh2, hv2, ⟨N2, ht2⟩, ⟨f48, h48⟩, ⟨gr, kgr, h49⟩, -⟩ := hip
    have eb : b9 = b := by
      rcases hsl with e | ⟨e, e1⟩
      · rcases hsl2 with e2 | ⟨e2, -⟩
        · rw [e] at e2; exact (Option.some.inj e2).symm
        · rw [e] at e2; cases e2
      · rcases hsl2 with e2 | ⟨-, e2⟩
        · rw [e] at e2; cases e2
        · rw [e1, e2]
    subst eb
    have hsA : slA n Bc b9 := (hF2.2 b9 rfl).2.1
    have hb5 : b9 + 5 ≤ S2.1 := (hF2.2 b9 rfl).1
    have z0 := u.1
    have z9 := u2.1
    have u9 : ks_ex S S' (LI b9 ++ LJg n b9 (va_up Bc n (kpK Bc n T b9))) := (u.mono (fun a ha => List.mem_append_left _ ha)).trans (u2.mono (fun a ha => List.mem_append_right _ ha))
    have hb9 : 284 ≤ b9 := by
      rcases hsl with e | ⟨-, e⟩
      · exact (hN.2 b9 e).1
      · omega
    have nL : ∀ x, x = 48 ∨ x = 49 → x ∉ LJg n b9 (va_up Bc n (kpK Bc n T b9)) := fun x hx hm => by
      rcases List.mem_append.mp hm with h | h
      · simp only [List.mem_cons, List.not_mem_nil, or_false] at h
        omega
      · rcases List.mem_append.mp h with h | h
        · have : ∀ x ∈ LCn, x ≠ 48 ∧ x ≠ 49 := by decide
          have := this x h
          omega
        · obtain ⟨i, hi, e9⟩ := List.mem_map.mp h
          have hi := List.mem_range.mp hi
          change bkN (va_up Bc n (kpK Bc n T b9) i) = x at e9
          by_cases e : i = n
          · rw [e, va_up_self, kn] at e9; omega
          · rw [va_up_ne _ _ e] at e9
            have := (hN.1 i (by omega)).1.1
            omega
    obtain ⟨q1, q2, q3⟩ := jk_cq (k := kpK Bc n T b9) hC hR (by omega) hF hN hsl (kn b9) u9 (by omega) ho ho5 hoS a1 mz tv tg a43 ⟨f48, u2.at h48 (nL _ (Or.inl rfl)) (Or.inl (by omega))⟩ ⟨gr, kgr, u2.at h49 (nL _ (Or.inr rfl)) (Or.inl (by omega))⟩ a50 a51 cx cf ct eN hcc hc0
    exact ⟨q1, q2, q3, ⟨by omega, by omega, by omega⟩, hsA⟩
  by_cases hle : bkW (Bc (inQ Bc n T - 1)) + 2 ^ 256 / (tg_num (btB T) + 1) ≤ bkW (Bc best)
  · -- stored
    have mk1 : ∀ {S' : ks_S}, (∃ b S2, inP S n best cc tk Bc sl T (some (.int (nI 0))) S2 ∧ (sl = some b ∨ (sl = none ∧ b = S.1)) ∧ ks_up S2 S' [2, 1, 45, 46, 47, 41, b] ∧ bfS S' 1 2 1600 (some []) ∧ chX S' (n + 1) best cc tk (va_up Bc n (kpK Bc n T b)) ∧ chF S' (n + 1) (va_up Bc n (kpK Bc n T b)) none ∧ ∃ N, tg_ok S' N) → ∃ b, cqS S' (n + 1) best (va_up Bc n (kpK Bc n T b)) t q dt rs Ds [] ∧ rqS (ks_cl S') V F n best Br C R t D T q dt rs ∧ S'.2.2 o = some (kJ 1 f) ∧ (S.1 ≤ S'.1 ∧ S'.1 ≤ S.1 + 65 ∧ S'.2.1 ≤ S.2.1 + 26040) ∧ slA n Bc b := by
      rintro S' ⟨b, S2, hip, hsl, u3, hb, hX3, hF3, N3, ht3⟩
      refine ⟨b, ?_⟩
      obtain ⟨-, b9, u, ⟨z1, z2⟩, hX2, hF2, hsl2, hh2, hv2, -⟩ := id hip
      have hb9 : 284 ≤ b := by
        rcases hsl with e | ⟨-, e⟩
        · exact (hN.2 b e).1
        · omega
      have eb : b9 = b := by
        rcases hsl with e | ⟨e, e1⟩
        · rcases hsl2 with e2 | ⟨e2, -⟩
          · rw [e] at e2; exact (Option.some.inj e2).symm
          · rw [e] at e2; cases e2
        · rcases hsl2 with e2 | ⟨-, e2⟩
          · rw [e] at e2; cases e2
          · rw [e1, e2]
      subst eb
      have l3 : ∀ x ∈ [2, 1, 45, 46, 47, 41, b9], x = 1 ∨ x = 2 ∨ x = 41 ∨ (45 ≤ x ∧ x ≤ 47) ∨ x = b9 := fun x hx => by
        simp only [List.mem_cons, List.not_mem_nil, or_false] at hx
        omega
      have z0 := u.1
      have w1 : S'.1 = S2.1 := u3.1
      have w2 : S'.2.1 = S2.2.1 := u3.2.1
      have lin : ∀ x ∈ LIn, (7 < x ∧ x < 14) ∨ (20 ≤ x ∧ x ≤ 26) ∨ x = 45 ∨ x = 48 ∨ x = 49 := by decide
      have m2 : ∀ x, x ∈ LI b9 → (7 < x ∧ x < 14) ∨ (20 ≤ x ∧ x ≤ 26) ∨ x = 45 ∨ x = 48 ∨ x = 49 ∨ x = 42 ∨ 284 ≤ x := fun x hx => by
        rcases LI_mem hx with h | h | h
        · have := lin x h; omega
        · omega
        · omega
      have hh3 : hsO S' := hs_ag hh2 (fun a h1 h2 => u3.2.2 a (fun hm => by have := l3 a hm; omega))
      have mz2 : mcZ S2 := mcZ_ex hC.2.1.1 u hh2 (fun x hx => by have := m2 x hx; omega) (by omega)
      have mz3 : mcZ S' := mcZ_ex mz2 u3.ex hh3 (fun x hx => by have := l3 x hx; omega) (by omega)
      have at3 : ∀ {a : Nat} {e : ks_E}, S.2.2 a = some e → a = 43 ∨ a = 50 ∨ a = 51 → S'.2.2 a = some e := fun {a e} h1 h2 => u3.at (u.at h1 (fun hm => by have := m2 a hm; omega) (Or.inl (by omega))) (fun hm => by have := l3 a hm; omega)
      refine mk (b := b9) (bst := best) hip hsl (u3.ex.mono (fun a ha => ?_)) ⟨by omega, by omega⟩ hb mz3 (hv2.up2 u3 (fun x hx => by have := l3 x hx; omega)) ⟨N3, ht3⟩ ⟨f43, at3 h43 (by omega)⟩ ⟨f50, at3 h50 (by omega)⟩ ⟨f51, at3 h51 (by omega)⟩ ⟨cc, tk, hX3⟩ hF3 ?_ (fun i => rfl) (fun i c hi hq => ?_) (fun c hq => ?_)
      · have := l3 a ha
        simp only [List.mem_append, List.mem_cons, List.not_mem_nil, or_false]
        omega
      · have ct2 : chT S2 n Bc := hC.2.2.2.2.2.2.1.ex u (by omega)
        exact (ct2.up u3).keep (by rw [kn, w1]; exact (hF2.2 b9 rfl).1) rfl
      · by_cases e : i = n
        · rw [e, va_up_self] at hq; cases hq
        · rw [va_up_ne _ _ e] at hq
          exact Or.inl ⟨by omega, hq⟩
      · rw [va_up_ne _ _ (by omega)]; exact hq
    refine ⟨0, fun S1 => ∃ (S0 : ks_S) (b : Nat), (cqS S0 (n + 1) best (va_up Bc n (kpK Bc n T b)) t q dt rs Ds [] ∧ rqS (ks_cl S0) V F n best Br C R t D T q dt rs ∧ S0.2.2 o = some (kJ 1 f) ∧ (S.1 ≤ S0.1 ∧ S0.1 ≤ S.1 + 65 ∧ S0.2.1 ≤ S.2.1 + 26040) ∧ slA n Bc b) ∧ S1 = ks_set S0 o (kJ 1 (va_up f 0 (nI 1).toInt64)), by decide, (hl_judge_ok (d := 16) htr h0 (c_jd_judge1 (d := 7) h0 hX hF hC.2.2.2.2.2.2.1 (by omega) kW hei hT hC.2.1.1.1.2.1 hC.2.1.2.1 hC.1.2.1 hTg h48 h49 k49 hin hn hr.1 hwk hwb hwn hle) (fun z S1 y => ?_)).mono (fun z S1 y => ?_), ?_⟩
    · obtain ⟨e, y2⟩ := y
      obtain ⟨b, -, -, e3, -⟩ := mk1 y2
      exact ⟨_, f, e, e3⟩
    · obtain ⟨e, v, S0, f0, ⟨ev, y1⟩, y2, y3⟩ := y
      cases ev
      obtain ⟨b, k1, k2, k3, k4⟩ := mk1 y1
      rw [k3] at y2
      have ef : f0 = f := by
        have := Option.some.inj y2
        injection this with a1
        injection a1 with a2 a3
        injection a3 with a4 a5
        injection a5 with a6
        injection a6 with a7
        exact a7.symm
      rw [ef] at y3
      exact ⟨e, S0, b, ⟨k1, k2, k3, k4⟩, y3⟩
    · rintro S1 ⟨S0, b, ⟨hC0, hR0, e1, ⟨z0, z1, z2⟩, hsA⟩, rfl⟩
      have oS0 : o < S0.1 := by omega
      have hC1 : cqS (ks_cl S0) (n + 1) best (va_up Bc n (kpK Bc n T b)) t q dt rs Ds [] := hC0.fr (S1 := ks_cl S0) (fun a e h1 _ _ _ h5 => (ks_cl_at S0 h5).trans h1) ⟨Nat.le_refl _, hC0.2.2.2.2.2.2.1.2.1⟩
      have e1c : (ks_cl S0).2.2 o = some (kJ 1 f) := (ks_cl_at S0 (Or.inl oS0)).trans e1
      have hC2 := hC1.out (g := va_up f 0 (nI 1).toInt64) e1c ho5
      have hR2 := hR0.out (g := va_up f 0 (nI 1).toInt64) e1c ho5 oS0
      refine ⟨⟨V, ks_cl_set _ oS0 _ _ hR2.1.1⟩, rj_X (S := ks_set S0 o (kJ 1 (va_up f 0 (nI 1).toInt64))) (S0 := ks_set (ks_cl S0) o (kJ 1 (va_up f 0 (nI 1).toInt64))) rfl rfl (ks_cl_set _ oS0) hR2 (kW.eq eR) kH (rbH_e9 eR hei) (fun S1 V1 r9 hR3 pp a b d h => ?_) (fun S1 V1 hR3 pp a h => ?_) (fun S1 V1 hR3 pp a h => ?_) (fun S1 V1 p9 g hR3 pp a b9 d h1 h2 h h6 h7 h8 => ?_)⟩
      · rw [eI, hin] at a
        have := nI_20 0 (by decide) r9 d a
        omega
      · rw [eI, hin] at a; exact absurd a (nI_20m 0 (by decide)).1
      · rw [eI, hin] at a; exact absurd a (nI_20m 0 (by decide)).2
      · have ep : p9 = p := by omega
        subst ep
        have c1 : S1.1 = S0.1 := pp.1.1
        have c2 : S1.2.1 = S0.2.1 := pp.1.2.1
        refine rj_K hR3 (by omega) hKK eR a b9 d h6 h7 h8 lT9 kT (fun _ _ w => by omega) (fun S2 V2 _ hR4 fr4 cn4 v4 _ => ?_) (fun _ _ _ _ _ w => by rw [wR, wB] at w; omega) (fun _ _ _ _ _ w => by rw [wR, wB] at w; omega)
        obtain ⟨s1, s2⟩ := kk_st (S := S1) hKK eR hn hin hq hp lT9 kT hsA hR3.2.2.1 hR3.1.nw.1
        obtain ⟨g1, g2⟩ := lw_kept (o := o) (c := c) (Bc := Bc) hC2 pp hR3 (fr4.mono (fun a ha => List.mem_append_right _ ha)) hR4 ⟨by omega, hr.2.1, by omega, s1, hr.2.2.2.2.1, s2⟩ (ks_set_same _ _ _) ho5 (by show o < S0.1; omega) ⟨by omega, by omega⟩ (by omega) (by omega)
        exact ⟨_, V2, _, rfl, hR4.1.1, v4.trans h, g1, fun _ => va_up_self _ _ _, g2⟩
  · have hgt : bkW (Bc best) < bkW (Bc (inQ Bc n T - 1)) + 2 ^ 256 / (tg_num (btB T) + 1) := by omega
    have hhn : bkH (Bc (inQ Bc n T - 1)) + 1 < 700 := by
      rw [hq, Nat.add_sub_cancel]
      have := (hKK.2.2.2.1 p hp).1
      omega
    have eJ : ∀ b r, jgR Bc n T b r = cnA (va_up Bc n (kpK Bc n T b)) r (clL (va_up Bc n (kpK Bc n T b)) 60 (n + 1)).reverse := fun _ _ => rfl
    have mk2 : ∀ {S2 S' : ks_S} {b bst : Nat} {Bf : Nat → Bk}, inP S n best cc tk Bc sl T (some (.int (nI 0))) S2 → (sl = some b ∨ (sl = none ∧ b = S.1)) → jgO S2 S' n bst b (va_up Bc n (kpK Bc n T b)) Bf → (∀ i, bkN (Bf i) = bkN (va_up Bc n (kpK Bc n T b) i)) → (∀ i c, bkC (Bf i) = some c → bkC (va_up Bc n (kpK Bc n T b) i) = some c ∨ S2.1 ≤ c.1) → (∀ c, bkC (va_up Bc n (kpK Bc n T b) 0) = some c → bkC (Bf 0) = some c) → cqS S' (n + 1) bst Bf t q dt rs Ds [] ∧ rqS (ks_cl S') V F n best Br C R t D T q dt rs ∧ S'.2.2 o = some (kJ 1 f) ∧ (S.1 ≤ S'.1 ∧ S'.1 ≤ S.1 + 65 ∧ S'.2.1 ≤ S.2.1 + 26040) ∧ slA n Bc b := by
      intro S2 S' b bst Bf hip hsl hj eN hcc hc0
      obtain ⟨u2, cnt, a1, cx, cf, tg, mz, tv, ct, cS, cW, cC, cV, a43, a50, a51⟩ := hj
      have z0 : S.1 ≤ S2.1 := by
        obtain ⟨-, b9, u, -⟩ := hip
        exact u.1
      refine mk hip hsl u2 cnt a1 mz tv tg a43 a50 a51 cx cf ct eN (fun i c hi h => ?_) (fun c h => hc0 c (by rw [va_up_ne _ _ (by omega)]; exact h))
      rcases hcc i c h with w | w
      · by_cases e : i = n
        · rw [e, va_up_self] at w; cases w
        · rw [va_up_ne _ _ e] at w
          exact Or.inl ⟨by omega, w⟩
      · exact Or.inr (by omega)
    have hok9 : ∀ (b : Nat), slA n Bc b → ∃ q9, cqOK (va_up Bc n (kpK Bc n T b)) (n + 1) q9 (clL (va_up Bc n (kpK Bc n T b)) 60 (n + 1)).reverse := fun b hA => by
      obtain ⟨q9, c9, -, -, h, -⟩ := cl_cq (n := n + 1) (B := va_up Bc n (kpK Bc n T b)) (kW.keep n0 (by show 0 < inQ Bc n T ∧ inQ Bc n T ≤ n; omega)) (by rw [va_up_ne _ _ (by omega)]; exact h00) (u := 60) (k := n + 1) (by omega) (Nat.le_refl _) (by omega)
      exact ⟨q9, h⟩
    by_cases hz : (jgR Bc n T 0 0).2.1 = 0
    · -- connected
      have hok : ∀ b r, (jgR Bc n T b r).2.1 = 0 := fun b r => by rw [jgR_s 0 0 b r]; exact hz
      have mk3 : ∀ {S' : ks_S} {z : Option Value}, (∃ b S2, inP S n best cc tk Bc sl T (some (.int (nI 0))) S2 ∧ (sl = some b ∨ (sl = none ∧ b = S.1)) ∧ z = some (.int (nI (if inQ Bc n T = best + 1 then 0 else 2))) ∧ jgO S2 S' n n b (va_up Bc n (kpK Bc n T b)) (jgR Bc n T b S2.1).1) → z = some (.int (nI (if p = best then 0 else 2))) ∧ ∃ b r, (cqS S' (n + 1) n (jgR Bc n T b r).1 t q dt rs Ds [] ∧ rqS (ks_cl S') V F n best Br C R t D T q dt rs ∧ S'.2.2 o = some (kJ 1 f) ∧ (S.1 ≤ S'.1 ∧ S'.1 ≤ S.1 + 65 ∧ S'.2.1 ≤ S.2.1 + 26040) ∧ slA n Bc b) ∧ chW (n + 1) (jgR Bc n T b r).1 ∧ chS (n + 1) (jgR Bc n T b r).1 ∧ chC (n + 1) (jgR Bc n T b r).1 ∧ chV (n + 1) (jgR Bc n T b r).1 := by
        rintro S' z ⟨b, S2, hip, hsl, ez, hj⟩
        refine ⟨?_, b, S2.1, ?_, hj.2.2.2.2.2.2.2.2.2.2.1, hj.2.2.2.2.2.2.2.2.2.1, hj.2.2.2.2.2.2.2.2.2.2.2.1, hj.2.2.2.2.2.2.2.2.2.2.2.2.1⟩
        · rw [ez, hq]
          by_cases e : p = best
          · rw [if_pos (by omega), if_pos e]
          · rw [if_neg (by omega), if_neg e]
        · have hA : slA n Bc b := by
            obtain ⟨-, b9, u, -, -, hF2, hsl2, -⟩ := id hip
            have eb : b9 = b := by
              rcases hsl with e | ⟨e, e1⟩
              · rcases hsl2 with e2 | ⟨e2, -⟩
                · rw [e] at e2; exact (Option.some.inj e2).symm
                · rw [e] at e2; cases e2
              · rcases hsl2 with e2 | ⟨-, e2⟩
                · rw [e] at e2; cases e2
                · rw [e1, e2]
            rw [← eb]
            exact (hF2.2 b9 rfl).2.1
          obtain ⟨q9, hq9⟩ := hok9 b hA
          exact mk2 hip hsl hj (fun i => (cnA_M _ _ _ i).2.1) (fun i c h => cnA_N _ _ _ i c h) (fun c h => cnA_C _ _ q9 _ 0 c hq9 h)
      refine ⟨0, fun S1 => ∃ (S0 : ks_S) (b r : Nat), ((cqS S0 (n + 1) n (jgR Bc n T b r).1 t q dt rs Ds [] ∧ rqS (ks_cl S0) V F n best Br C R t D T q dt rs ∧ S0.2.2 o = some (kJ 1 f) ∧ (S.1 ≤ S0.1 ∧ S0.1 ≤ S.1 + 65 ∧ S0.2.1 ≤ S.2.1 + 26040) ∧ slA n Bc b) ∧ chW (n + 1) (jgR Bc n T b r).1 ∧ chS (n + 1) (jgR Bc n T b r).1 ∧ chC (n + 1) (jgR Bc n T b r).1 ∧ chV (n + 1) (jgR Bc n T b r).1) ∧ S1 = ks_set S0 o (kJ 1 (va_up f 0 (nI (if p = best then 0 else 2)).toInt64)), by decide, (hl_judge_ok (d := 16) htr h0 (c_jd_judge0 (d := 7) h0 hX hF hC.2.2.2.2.2.2.1 (by omega) kW hT hC.2.1.1.1.2.1 hC.2.1.2.1 hC.1.2.1 hTg h48 h49 k49 math_ok hKK.2.2.1.2.1 hKK.2.2.1.2.2.1 hKK.2.2.1.2.2.2.1 hC.2.1.1 h43 h50 h51 h00 n0 hhn hin hn hr.1 hwk hwb hwn hgt hok) (fun z S1 y => ?_)).mono (fun z S1 y => ?_), ?_⟩
      · obtain ⟨e, b, r, ⟨-, -, e3, -⟩, -⟩ := mk3 y
        exact ⟨_, f, e, e3⟩
      · obtain ⟨e, v, S0, f0, y1, y2, y3⟩ := y
        obtain ⟨ev, b, r, k⟩ := mk3 y1
        have k3 := k.1.2.2.1
        rw [k3] at y2
        have ef : f0 = f := by
          have := Option.some.inj y2
          injection this with a1
          injection a1 with a2 a3
          injection a3 with a4 a5
          injection a5 with a6
          injection a6 with a7
          exact a7.symm
        cases ev
        rw [ef] at y3
        exact ⟨e, S0, b, r, k, y3⟩
      · rintro S1 ⟨S0, b, r, ⟨⟨hC0, hR0, e1, ⟨z0, z1, z2⟩, hsA⟩, fW, fS, fC, fV⟩, rfl⟩
        have oS0 : o < S0.1 := by omega
        obtain ⟨v, ev⟩ : ∃ v, v = nI (if p = best then 0 else 2) := ⟨_, rfl⟩
        rw [← ev]
        have hC1 : cqS (ks_cl S0) (n + 1) n (jgR Bc n T b r).1 t q dt rs Ds [] := hC0.fr (S1 := ks_cl S0) (fun a e h1 _ _ _ h5 => (ks_cl_at S0 h5).trans h1) ⟨Nat.le_refl _, hC0.2.2.2.2.2.2.1.2.1⟩
        have e1c : (ks_cl S0).2.2 o = some (kJ 1 f) := (ks_cl_at S0 (Or.inl oS0)).trans e1
        have hC2 := hC1.out (g := va_up f 0 v.toInt64) e1c ho5
        have hR2 := hR0.out (g := va_up f 0 v.toInt64) e1c ho5 oS0
        refine ⟨⟨V, ks_cl_set _ oS0 _ _ hR2.1.1⟩, rj_X (S := ks_set S0 o (kJ 1 (va_up f 0 v.toInt64))) (S0 := ks_set (ks_cl S0) o (kJ 1 (va_up f 0 v.toInt64))) rfl rfl (ks_cl_set _ oS0) hR2 (kW.eq eR) kH (rbH_e9 eR hei) (fun S1 V1 r9 hR3 pp a b d h => ?_) (fun S1 V1 hR3 pp a h => ?_) (fun S1 V1 hR3 pp a h => ?_) (fun S1 V1 p9 g hR3 pp a b9 d h1 h2 h h6 h7 h8 => ?_)⟩
        · rw [eI, hin] at a
          have := nI_20 0 (by decide) r9 d a
          omega
        · rw [eI, hin] at a; exact absurd a (nI_20m 0 (by decide)).1
        · rw [eI, hin] at a; exact absurd a (nI_20m 0 (by decide)).2
        · have ep : p9 = p := by omega
          subst ep
          have c1 : S1.1 = S0.1 := pp.1.1
          have c2 : S1.2.1 = S0.2.1 := pp.1.2.1
          obtain ⟨s1, s2⟩ := kk_st (S := S1) hKK eR hn hin hq hp lT9 kT hsA hR3.2.2.1 hR3.1.nw.1
          obtain ⟨j1, j2, j3⟩ := kk_ok (r := r) gd_eq s2 s1 rfl rfl (hok b r) fW fS fC fV
          refine rj_K hR3 (by omega) hKK eR a b9 d h6 h7 h8 lT9 kT (fun _ _ w => by omega) (fun _ _ _ _ _ _ _ w => by rw [wR, wB] at w; omega) (fun _ _ _ _ _ _ w => absurd j1 w) (fun S5 V5 F3 R3 _ _ _ hR5 fr5 cn5 v5 => ?_)
          obtain ⟨g1, g2⟩ := lw_kept (o := o) (c := c) (Bc := Bc) hC2 pp hR3 fr5 hR5 ⟨by omega, hr.2.1, by omega, j2, hr.2.2.2.2.1, j3⟩ (ks_set_same _ _ _) ho5 (by show o < S0.1; omega) ⟨by omega, by omega⟩ (by omega) (by omega)
          exact ⟨_, V5, _, rfl, hR5.1.1, v5.trans h, g1, fun _ => by rw [← ev]; exact va_up_self _ _ _, g2⟩
    · -- bad
      have hbad : ∀ b r, (jgR Bc n T b r).2.1 ≠ 0 := fun b r => by rw [jgR_s 0 0 b r]; exact hz
      refine ⟨1, fun S1 => ∃ (S5 : ks_S) (b r : Nat), (cqS S5 (n + 1) best (spB (n + 1) (jgR Bc n T b r).1 (jgR Bc n T b r).2.2) t q dt rs Ds [] ∧ rqS (ks_cl S5) V F n best Br C R t D T q dt rs ∧ S5.2.2 o = some (kJ 1 f) ∧ (S.1 ≤ S5.1 ∧ S5.1 ≤ S.1 + 65 ∧ S5.2.1 ≤ S.2.1 + 26040) ∧ slA n Bc b) ∧ (chS (n + 1) (spB (n + 1) (jgR Bc n T b r).1 (jgR Bc n T b r).2.2) ∧ chC (n + 1) (spB (n + 1) (jgR Bc n T b r).1 (jgR Bc n T b r).2.2) ∧ chV (n + 1) (spB (n + 1) (jgR Bc n T b r).1 (jgR Bc n T b r).2.2)) ∧ S1 = ks_one (ks_set S5 0 (jdO t q dt (nI (jgR Bc n T b r).2.1))), by decide, (hl_judge_no3 (d := 16) htr h0 (t_judgeC (d := 7) htr h0 hX hF hC.2.2.2.2.2.2.1 (by omega) kW hT hC.2.1.1.1.2.1 hC.2.1.2.1 hC.1.2.1 hTg h48 h49 k49 math_ok hKK.2.2.1.2.1 hKK.2.2.1.2.2.1 hKK.2.2.1.2.2.2.1 hC.2.1.1 h43 h50 h51 h00 n0 hhn hin hn hr.1 hwk hwb hwn hgt hbad) (fun z S1 y => y.1)).mono (fun z S1 y => ?_), ?_⟩
      · obtain ⟨e, z1, -, b, S2, S5, hip, hsl, e5, hj⟩ := y
        have hA : slA n Bc b := by
          obtain ⟨-, b9, u, -, -, hF2, hsl2, -⟩ := id hip
          have eb : b9 = b := by
            rcases hsl with e | ⟨e, e1⟩
            · rcases hsl2 with e2 | ⟨e2, -⟩
              · rw [e] at e2; exact (Option.some.inj e2).symm
              · rw [e] at e2; cases e2
            · rcases hsl2 with e2 | ⟨-, e2⟩
              · rw [e] at e2; cases e2
              · rw [e1, e2]
          rw [← eb]
          exact (hF2.2 b9 rfl).2.1
        obtain ⟨q9, hq9⟩ := hok9 b hA
        refine ⟨e, S5, b, S2.1, mk2 hip hsl hj (fun i => (cnA_M _ _ _ i).2.1) (fun i c h => cnA_N _ _ _ i c h) (fun c h => cnA_C _ _ q9 _ 0 c hq9 h), ⟨hj.2.2.2.2.2.2.2.2.2.1, hj.2.2.2.2.2.2.2.2.2.2.2.1, hj.2.2.2.2.2.2.2.2.2.2.2.2.1⟩, e5⟩
      · rintro S1 ⟨S5, b, r, ⟨hC0, hR0, e1, ⟨z0, z1, z2⟩, hsA⟩, ⟨fS, fC, fV⟩, rfl⟩
        have oS0 : o < S5.1 := by omega
        obtain ⟨rr, err⟩ : ∃ rr, rr = (jgR Bc n T b r).2.1 := ⟨_, rfl⟩
        rw [← err]
        have hC1 : cqS (ks_cl S5) (n + 1) best (spB (n + 1) (jgR Bc n T b r).1 (jgR Bc n T b r).2.2) t q dt rs Ds [] := hC0.fr (S1 := ks_cl S5) (fun a e h1 _ _ _ h5 => (ks_cl_at S5 h5).trans h1) ⟨Nat.le_refl _, hC0.2.2.2.2.2.2.1.2.1⟩
        have hC2 := hC1.rs rr (by show 565 ≤ S5.1; omega)
        have u0 : ks_up (ks_cl S5) (ks_set (ks_cl S5) 0 (jdO t q dt (nI rr))) [0] := ks_up_set _ _ (by decide)
        have hR2 := hR0.lo u0 (by decide) (cq_low hC2)
        have hC3 := hC2.one (by show S5.1 + 1 < ks_B; omega)
        have hR3 := hR2.one (S1 := S) (L := []) (by show S5.1 + F + 3 < ks_B; omega) (cq_low hC2)
        have le : ∀ a e, (ks_one (ks_set (ks_cl S5) 0 (jdO t q dt (nI rr)))).2.2 a = some e → (ks_one (ks_set S5 0 (jdO t q dt (nI rr)))).2.2 a = some e := ks_cl_set (S := S5) _ (by omega)
        have ho3 : (ks_one (ks_set (ks_cl S5) 0 (jdO t q dt (nI rr)))).2.2 o = some (kJ 1 f) := (ks_set_ne _ _ (by omega)).trans ((ks_cl_at S5 (Or.inl oS0)).trans e1)
        refine ⟨⟨V, le _ _ hR3.1.1⟩, rj_X (S := ks_one (ks_set S5 0 (jdO t q dt (nI rr)))) (S0 := ks_one (ks_set (ks_cl S5) 0 (jdO t q dt (nI rr)))) rfl rfl le hR3 (kW.eq eR) kH (rbH_e9 eR hei) (fun S1 V1 r9 hR4 pp a b d h => ?_) (fun S1 V1 hR4 pp a h => ?_) (fun S1 V1 hR4 pp a h => ?_) (fun S1 V1 p9 g hR4 pp a b9 d h1 h2 h h6 h7 h8 => ?_)⟩
        · rw [eI, hin] at a
          have := nI_20 0 (by decide) r9 d a
          omega
        · rw [eI, hin] at a; exact absurd a (nI_20m 0 (by decide)).1
        · rw [eI, hin] at a; exact absurd a (nI_20m 0 (by decide)).2
        · have ep : p9 = p := by omega
          subst ep
          have c1 : S1.1 = S5.1 + 1 := pp.1.1
          have c2 : S1.2.1 = S5.2.1 + 6 := pp.1.2.1
          obtain ⟨s1, s2⟩ := kk_st (S := S1) hKK eR hn hin hq hp lT9 kT hsA hR4.2.2.1 hR4.1.nw.1
          obtain ⟨j1, j2, j3⟩ := kk_bad (r := r) gd_eq s2 s1 rfl rfl (hbad b r) fS fC fV
          refine rj_K hR4 (by omega) hKK eR a b9 d h6 h7 h8 lT9 kT (fun _ _ w => by omega) (fun _ _ _ _ _ _ _ w => by rw [wR, wB] at w; omega) (fun S6 V6 F3 R3 _ _ _ hR5 fr5 cn5 v5 => ?_) (fun _ _ _ _ _ _ w => absurd (j1.symm.trans w) (hbad b r))
          have hR6 : rqS S6 V6 F3 (n + 1) best (rchT n (va_up Br n (rkB Br T p9 S1.1))).2.2 C R3 t D [] q dt rr := by
            rw [err]
            rw [j1] at hR5
            exact hR5
          obtain ⟨g1, g2⟩ := lw_kept (o := o) (c := c) (Bc := Bc) hC3 pp hR4 fr5 hR6 ⟨by omega, hr.2.1, by omega, j2, hr.2.2.2.2.1, j3⟩ ho3 ho5 (by show o < S5.1 + 1; omega) ⟨by omega, by omega⟩ (by omega) (by omega)
          exact ⟨_, V6, _, rfl, hR6.1.1, v5, g1, fun x => absurd x (by decide), g2⟩
theorem op_judge {l : Launch} {G : ks_G} {o c : Nat} {S : ks_S} (htr : l.stackTraces = false) (hc : c ≤ 512) (hI : lwI kkK o c S) : opI l G kkK o c yL_judge mL_judge hL_judge yX16_judge mX16_judge [] S := by
  obtain ⟨n, best, Bc, Br, C, R, t, q, dt, rs, Ds, D, T, V, F, hC, hR, hr, ⟨⟨f, ho⟩, ho5, hoS⟩, r1, r2⟩ := hI
  by_cases h : inF Bc n T = nI 0 ∧ n < 60
  · exact op_jk htr hc hC hR hr ho ho5 hoS r1 r2 h.1 h.2
  · exact op_jv htr hc hC hR hr ho ho5 hoS r1 r2 h
