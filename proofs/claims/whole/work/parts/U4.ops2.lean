/-! THE LAW: calls of both sides, further -/
/-- what the law asks of the coins -/
def lwKA (K : lwK) : Prop := ∀ n best Bc Br C, K n best Bc Br C → ∃ r L, bkC (Bc best) = some (r, L) ∧ L.length = C.length ∧ (∀ i, i < L.length → cnR n Bc (L.getD i 0)) ∧ cnS Bc L L.length = rmS Br C C.length ∧ ∀ (ix : Int32) (id : Nat → Nat) (xn : Nat), True
theorem x_toI {x : Int32} {k : Nat} (h : ¬ (¬ x < 0 ∧ x ≤ nI k)) (hk : k < 2 ^ 31) : x.toInt < 0 ∨ (k : Int) < x.toInt := by
  rw [Int32.lt_iff_toInt_lt, Int32.le_iff_toInt_le, nI_tI9 hk] at h
  have e : (0 : Int32).toInt = 0 := by decide
  rw [e] at h
  omega
set_option maxRecDepth 100000 in
set_option maxHeartbeats 800000 in
theorem op_tell {l : Launch} {G : ks_G} {K : lwK} {o c : Nat} {S : ks_S} (htr : l.stackTraces = false) (hc : c ≤ 512) {x : Int32} (hKA : lwKA K) (hI : lwI K o c S) : opI l G K o c yL_tell mL_tell hL_tell yX16_tell mX16_tell [.int x] S := by
  obtain ⟨n, best, Bc, Br, C, R, t, q, dt, rs, Ds, D, T, V, F, hC, hR, hr, ⟨⟨f, ho⟩, ho5, hoS⟩, r1, r2⟩ := hI
  have h0 := hC.1.1
  have hT := hC.1.2.2.1
  have hDs := hC.2.2.2.1
  have hB9 := lw_B
  have hSB : S.1 < ks_B := hC.2.2.2.2.2.2.1.2.1
  have hn60 : n ≤ 60 := by
    obtain ⟨cc, tk, hX⟩ := hC.2.2.2.2.1
    exact hX.2.2.2
  have hS9 : S.1 + F + 50 < ks_B := by omega
  obtain ⟨cc, tk, hX⟩ := hC.2.2.2.2.1
  by_cases hx : ¬ x < 0 ∧ x ≤ nI 6
  · obtain ⟨k, hk9, rfl⟩ := nI_dec hx.1
    have hk : k ≤ 6 := (nI_le9 hk9 (by decide)).mp hx.2
    have hk2 : k = 0 ∨ k = 1 ∨ k = 2 ∨ k = 3 ∨ k = 4 ∨ k = 5 ∨ k = 6 := by omega
    clear hk hk9 hx
    rcases hk2 with rfl | rfl | rfl | rfl | rfl | rfl | rfl
    · refine ⟨0, fun S1 => S1 = ks_set S o (kJ 1 (va_up f 0 (nI T.length).toInt64)), by decide, (hl_tell_ok (d := 16) htr h0 (c_jd_tell0 (d := 16) h0 hT hX hr.1) (fun z S1 y => ⟨_, f, y.1, by rw [y.2]; exact ho⟩)).mono (fun z S1 y => ?_), ?_⟩
      · obtain ⟨e, v, S0, f0, ⟨ev, e0⟩, y2, y3⟩ := y
        cases ev
        subst e0
        have ef : f0 = f := by
          rw [ho] at y2
          cases y2
          rfl
        rw [ef] at y3
        exact ⟨e, y3⟩
      · rintro S1 rfl

        have hC2 := hC.out (g := va_up f 0 (nI T.length).toInt64) ho ho5
        have hR2 := hR.out (g := va_up f 0 (nI T.length).toInt64) ho ho5 hoS
        refine ⟨⟨V, hR2.1.1⟩, (c_mr_tell0 (d := 16) hR2.1.1 hR2.2.2.2.2.2.2.2.1).mono (fun z S2 y => ?_)⟩
        obtain ⟨rfl, V2, p, v⟩ := y
        obtain ⟨g1, g2⟩ := lw_ref (K := K) (o := o) (c := c) (C0 := S) hC2 (hR2.no p (by decide)) p (fun x hx => by cases hx) hr (ks_set_same _ _ _) ho5 hoS ⟨Nat.le_succ _, by show S.2.1 ≤ _; omega⟩ r1 r2
        exact ⟨_, V2, _, rfl, p.2.1, v, g1, fun _ => va_up_self _ _ _, g2⟩
    · refine ⟨0, fun S1 => S1 = ks_set S o (kJ 1 (va_up f 0 (nI rs).toInt64)), by decide, (hl_tell_ok (d := 16) htr h0 (c_jd_tell1 (d := 16) h0 hT hX hr.1) (fun z S1 y => ⟨_, f, y.1, by rw [y.2]; exact ho⟩)).mono (fun z S1 y => ?_), ?_⟩
      · obtain ⟨e, v, S0, f0, ⟨ev, e0⟩, y2, y3⟩ := y
        cases ev
        subst e0
        have ef : f0 = f := by
          rw [ho] at y2
          cases y2
          rfl
        rw [ef] at y3
        exact ⟨e, y3⟩
      · rintro S1 rfl

        have hC2 := hC.out (g := va_up f 0 (nI rs).toInt64) ho ho5
        have hR2 := hR.out (g := va_up f 0 (nI rs).toInt64) ho ho5 hoS
        refine ⟨⟨V, hR2.1.1⟩, (c_mr_tell1 (d := 16) hR2.1.1 hR2.2.2.2.2.2.2.2.2.2.1).mono (fun z S2 y => ?_)⟩
        obtain ⟨rfl, V2, p, v⟩ := y
        obtain ⟨g1, g2⟩ := lw_ref (K := K) (o := o) (c := c) (C0 := S) hC2 (hR2.no p (by decide)) p (fun x hx => by cases hx) hr (ks_set_same _ _ _) ho5 hoS ⟨Nat.le_succ _, by show S.2.1 ≤ _; omega⟩ r1 r2
        exact ⟨_, V2, _, rfl, p.2.1, v, g1, fun _ => va_up_self _ _ _, g2⟩
    · refine ⟨0, fun S1 => S1 = ks_set S o (kJ 1 (va_up f 0 (nI n).toInt64)), by decide, (hl_tell_ok (d := 16) htr h0 (c_jd_tell2 (d := 16) h0 hT hX hr.1) (fun z S1 y => ⟨_, f, y.1, by rw [y.2]; exact ho⟩)).mono (fun z S1 y => ?_), ?_⟩
      · obtain ⟨e, v, S0, f0, ⟨ev, e0⟩, y2, y3⟩ := y
        cases ev
        subst e0
        have ef : f0 = f := by
          rw [ho] at y2
          cases y2
          rfl
        rw [ef] at y3
        exact ⟨e, y3⟩
      · rintro S1 rfl

        have hC2 := hC.out (g := va_up f 0 (nI n).toInt64) ho ho5
        have hR2 := hR.out (g := va_up f 0 (nI n).toInt64) ho ho5 hoS
        refine ⟨⟨V, hR2.1.1⟩, (c_mr_tell2 (d := 16) hR2.1.1 hR2.2.2.2.1.1).mono (fun z S2 y => ?_)⟩
        obtain ⟨rfl, V2, p, v⟩ := y
        obtain ⟨g1, g2⟩ := lw_ref (K := K) (o := o) (c := c) (C0 := S) hC2 (hR2.no p (by decide)) p (fun x hx => by cases hx) hr (ks_set_same _ _ _) ho5 hoS ⟨Nat.le_succ _, by show S.2.1 ≤ _; omega⟩ r1 r2
        exact ⟨_, V2, _, rfl, p.2.1, v, g1, fun _ => va_up_self _ _ _, g2⟩
    · refine ⟨0, fun S1 => S1 = ks_set S o (kJ 1 (va_up f 0 (nI best).toInt64)), by decide, (hl_tell_ok (d := 16) htr h0 (c_jd_tell3 (d := 16) h0 hT hX hr.1) (fun z S1 y => ⟨_, f, y.1, by rw [y.2]; exact ho⟩)).mono (fun z S1 y => ?_), ?_⟩
      · obtain ⟨e, v, S0, f0, ⟨ev, e0⟩, y2, y3⟩ := y
        cases ev
        subst e0
        have ef : f0 = f := by
          rw [ho] at y2
          cases y2
          rfl
        rw [ef] at y3
        exact ⟨e, y3⟩
      · rintro S1 rfl

        have hC2 := hC.out (g := va_up f 0 (nI best).toInt64) ho ho5
        have hR2 := hR.out (g := va_up f 0 (nI best).toInt64) ho ho5 hoS
        refine ⟨⟨V, hR2.1.1⟩, (c_mr_tell3 (d := 16) hR2.1.1 hR2.2.2.2.1.2.1).mono (fun z S2 y => ?_)⟩
        obtain ⟨rfl, V2, p, v⟩ := y
        obtain ⟨g1, g2⟩ := lw_ref (K := K) (o := o) (c := c) (C0 := S) hC2 (hR2.no p (by decide)) p (fun x hx => by cases hx) hr (ks_set_same _ _ _) ho5 hoS ⟨Nat.le_succ _, by show S.2.1 ≤ _; omega⟩ r1 r2
        exact ⟨_, V2, _, rfl, p.2.1, v, g1, fun _ => va_up_self _ _ _, g2⟩
    · refine ⟨0, fun S1 => S1 = ks_set S o (kJ 1 (va_up f 0 (nI (bkH (Bc best))).toInt64)), by decide, (hl_tell_ok (d := 16) htr h0 (c_jd_tell4 (d := 16) h0 hT hX hr.1) (fun z S1 y => ⟨_, f, y.1, by rw [y.2]; exact ho⟩)).mono (fun z S1 y => ?_), ?_⟩
      · obtain ⟨e, v, S0, f0, ⟨ev, e0⟩, y2, y3⟩ := y
        cases ev
        subst e0
        have ef : f0 = f := by
          rw [ho] at y2
          cases y2
          rfl
        rw [ef] at y3
        exact ⟨e, y3⟩
      · rintro S1 rfl

        have hC2 := hC.out (g := va_up f 0 (nI (bkH (Bc best))).toInt64) ho ho5
        have hR2 := hR.out (g := va_up f 0 (nI (bkH (Bc best))).toInt64) ho ho5 hoS
        refine ⟨⟨V, hR2.1.1⟩, (c_mr_tell4 (d := 16) hR2.1.1 hR2.2.2.2.1.2.1 hR2.2.2.1 hr.1).mono (fun z S2 y => ?_)⟩
        obtain ⟨rfl, V2, p, v⟩ := y
        obtain ⟨g1, g2⟩ := lw_ref (K := K) (o := o) (c := c) (C0 := S) hC2 (hR2.no p (by decide)) p (fun x hx => by cases hx) hr (ks_set_same _ _ _) ho5 hoS ⟨Nat.le_succ _, by show S.2.1 ≤ _; omega⟩ r1 r2
        exact ⟨_, V2, _, rfl, p.2.1, v, g1, fun _ => by rw [(hr.2.2.2.1 best).2.2.1]; exact va_up_self _ _ _, g2⟩
    · obtain ⟨r, L, hL1, hL2, -⟩ := hKA n best Bc Br C hr.2.2.2.2.2
      refine ⟨0, fun S1 => S1 = ks_set S o (kJ 1 (va_up f 0 (nI L.length).toInt64)), by decide, (hl_tell_ok (d := 16) htr h0 (c_jd_tell5 (d := 16) h0 hT hX hr.1 hL1) (fun z S1 y => ⟨_, f, y.1, by rw [y.2]; exact ho⟩)).mono (fun z S1 y => ?_), ?_⟩
      · obtain ⟨e, v, S0, f0, ⟨ev, e0⟩, y2, y3⟩ := y
        cases ev
        subst e0
        have ef : f0 = f := by
          rw [ho] at y2
          cases y2
          rfl
        rw [ef] at y3
        exact ⟨e, y3⟩
      · rintro S1 rfl

        have hC2 := hC.out (g := va_up f 0 (nI L.length).toInt64) ho ho5
        have hR2 := hR.out (g := va_up f 0 (nI L.length).toInt64) ho ho5 hoS
        refine ⟨⟨V, hR2.1.1⟩, (c_mr_tell5 (d := 16) hR2.1.1 hR2.2.2.2.2.1.2.1).mono (fun z S2 y => ?_)⟩
        obtain ⟨rfl, V2, p, v⟩ := y
        obtain ⟨g1, g2⟩ := lw_ref (K := K) (o := o) (c := c) (C0 := S) hC2 (hR2.no p (by decide)) p (fun x hx => by cases hx) hr (ks_set_same _ _ _) ho5 hoS ⟨Nat.le_succ _, by show S.2.1 ≤ _; omega⟩ r1 r2
        exact ⟨_, V2, _, rfl, p.2.1, v, g1, fun _ => by rw [← hL2]; exact va_up_self _ _ _, g2⟩
    · refine ⟨0, fun S1 => S1 = ks_set S o (kJ 1 (va_up f 0 (nI t).toInt64)), by decide, (hl_tell_ok (d := 16) htr h0 (c_jd_tell6 (d := 16) h0 hT hX hr.1) (fun z S1 y => ⟨_, f, y.1, by rw [y.2]; exact ho⟩)).mono (fun z S1 y => ?_), ?_⟩
      · obtain ⟨e, v, S0, f0, ⟨ev, e0⟩, y2, y3⟩ := y
        cases ev
        subst e0
        have ef : f0 = f := by
          rw [ho] at y2
          cases y2
          rfl
        rw [ef] at y3
        exact ⟨e, y3⟩
      · rintro S1 rfl

        have hC2 := hC.out (g := va_up f 0 (nI t).toInt64) ho ho5
        have hR2 := hR.out (g := va_up f 0 (nI t).toInt64) ho ho5 hoS
        refine ⟨⟨V, hR2.1.1⟩, (c_mr_tell6 (d := 16) hR2.1.1 hR2.2.2.2.2.2.2.1.2).mono (fun z S2 y => ?_)⟩
        obtain ⟨rfl, V2, p, v⟩ := y
        obtain ⟨g1, g2⟩ := lw_ref (K := K) (o := o) (c := c) (C0 := S) hC2 (hR2.no p (by decide)) p (fun x hx => by cases hx) hr (ks_set_same _ _ _) ho5 hoS ⟨Nat.le_succ _, by show S.2.1 ≤ _; omega⟩ r1 r2
        exact ⟨_, V2, _, rfl, p.2.1, v, g1, fun _ => va_up_self _ _ _, g2⟩
  · refine ⟨1, fun S1 => S1 = ks_one S, by decide, (hl_tell_no1 (d := 16) htr h0 (t_tell (d := 7) htr hSB h0 (x_toI hx (by decide))) (fun z S1 y => y.1)).mono (fun z S1 y => ⟨y.1, by obtain ⟨_, _, e⟩ := y.2; exact e⟩), ?_⟩
    rintro S1 rfl
    have hC1 := hC.one (by omega)
    have hR1 := hR.one (S1 := S) (L := []) (by omega) (cq_low hC)
    refine ⟨⟨V, hR1.1.1⟩, (r_tell (d := 16) hR1.1.1 hx).mono (fun z S2 y => ?_)⟩
    obtain ⟨rfl, V2, p, v⟩ := y
    obtain ⟨g1, g2⟩ := lw_ref (K := K) (o := o) (c := c) (C0 := S) hC1 (hR1.no p (by decide)) p (fun x hx => by cases hx) hr ho ho5 (Nat.lt_succ_of_lt hoS) ⟨Nat.le_refl _, Nat.le_refl _⟩ r1 r2
    exact ⟨_, V2, f, rfl, p.2.1, v, g1, fun h => absurd h (by decide), g2⟩
set_option maxRecDepth 100000 in
set_option maxHeartbeats 800000 in
theorem op_digest {l : Launch} {G : ks_G} {K : lwK} {o c : Nat} {S : ks_S} (htr : l.stackTraces = false) (hc : c ≤ 512) {x : Int32} (hI : lwI K o c S) : opI l G K o c yL_digest mL_digest hL_digest yX16_digest mX16_digest [.int x] S := by
  obtain ⟨n, best, Bc, Br, C, R, t, q, dt, rs, Ds, D, T, V, F, hC, hR, hr, ⟨⟨f, ho⟩, ho5, hoS⟩, r1, r2⟩ := hI
  have h0 := hC.1.1
  have hT := hC.1.2.2.1
  have hDs := hC.2.2.2.1
  have hB9 := lw_B
  have hSB : S.1 < ks_B := hC.2.2.2.2.2.2.1.2.1
  have hn60 : n ≤ 60 := by
    obtain ⟨cc, tk, hX⟩ := hC.2.2.2.2.1
    exact hX.2.2.2
  have hS9 : S.1 + F + 50 < ks_B := by omega
  by_cases hx : ¬ x < 0 ∧ x ≤ nI 3
  · obtain ⟨k, hk9, rfl⟩ := nI_dec hx.1
    have hk : k ≤ 3 := (nI_le9 hk9 (by decide)).mp hx.2
    have hk2 : k = 0 ∨ k = 1 ∨ k = 2 ∨ k = 3 := by omega
    clear hk hk9 hx
    rcases hk2 with rfl | rfl | rfl | rfl
    · refine ⟨0, fun S1 => ∃ (S0 : ks_S) (f0 : Nat → Int64), ks_up S S0 [9, 8, 10, 11, 12, 2, 1] ∧ (hsO S0 ∧ bfS S0 1 2 1600 (some (bytL (sha_ (mg T) T.length) 0 32))) ∧ S0.2.2 o = some (kJ 1 f0) ∧ S1 = ks_set S0 o (kJ 1 (va_up f0 0 (nI 32).toInt64)), by decide, (hl_digest_ok (d := 16) htr h0 (c_jd_digest0 (d := 11) h0 hT hC.2.1.1.1.2.1 hC.1.2.1) (fun z S1 y => ⟨_, f, y.1, y.2.1.at ho (by simp only [List.mem_cons, List.not_mem_nil, or_false]; omega)⟩)).mono (fun z S1 y => ?_), ?_⟩
      · obtain ⟨e, v, S0, f0, ⟨ev, u, hb⟩, y2, y3⟩ := y
        cases ev
        exact ⟨e, S0, f0, u, hb, y2, y3⟩
      · rintro S1 ⟨S0, f0, u, ⟨hh, hb⟩, e1, rfl⟩

        have hC1 := hC.up u (T1 := bytL (sha_ (mg T) T.length) 0 32) (by decide) (u.at h0 (by decide)) hb (Or.inr (by decide)) (Or.inr (by decide)) (Or.inr ⟨Or.inl hh, by decide⟩) (Or.inr (by decide)) (Or.inr (by decide)) (Or.inr (by decide)) (Or.inr (by decide)) (by decide) (Or.inr (by decide)) (Or.inr (by decide)) (hDs.ex u.ex9 (by decide) (by have := hR.2.2.2.2.2.2.2.2.2.2; omega))
        have hR1 := hR.lo u (by decide) (cq_low hC1)
        have hC2 := hC1.out (g := va_up f0 0 (nI 32).toInt64) e1 ho5
        have hR2 := hR1.out (g := va_up f0 0 (nI 32).toInt64) e1 ho5 (by rw [u.1]; exact hoS)
        have u1 : S0.1 = S.1 := u.1
        have u2 : S0.2.1 = S.2.1 := u.2.1
        obtain ⟨g59, k59, h59⟩ : ∃ g, kO g ∧ (ks_set S0 o (kJ 1 (va_up f0 0 (nI 32).toInt64))).2.2 305 = some (kB 32 g) := hR2.1.s (p := (305, 0, 32)) (by decide)
        refine ⟨⟨V, hR2.1.1⟩, (c_mr_digest0 (d := 12) hR2.1.1 hR2.2.2.2.2.2.2.2.1 hR2.1.2.2.2.1 hR2.1.2.2.2.2.1 h59 k59).mono (fun z S2 y => ?_)⟩
        obtain ⟨rfl, V2, p, v, mh2, mr2, h52, hB2⟩ := y

        obtain ⟨g1, g2⟩ := lw_ref (K := K) (o := o) (c := c) (C0 := S) hC2 (hR2.kd p (by decide) (hR2.1.2.2.2.2.2.1.up p.1 (by decide)) mh2 mr2 h52 (by obtain ⟨g, k, e⟩ := hR2.1.s (p := (533, 0, 65)) (by decide); exact ⟨g, k, p.1.at e (by decide)⟩) hB2) p (by decide) hr (ks_set_same _ _ _) ho5 (by show o < S0.1; omega) ⟨by show S0.1 ≤ _; omega, by show S0.2.1 ≤ _; omega⟩ r1 r2
        exact ⟨_, V2, _, rfl, p.2.1, v, g1, fun _ => va_up_self _ _ _, g2⟩
    · refine ⟨0, fun S1 => ∃ (S0 : ks_S) (f0 : Nat → Int64), ks_up S S0 [9, 8, 10, 11, 12, 2, 1] ∧ (hsO S0 ∧ bfS S0 1 2 1600 (some (bytL (ripe_ (mg T) T.length) 0 20))) ∧ S0.2.2 o = some (kJ 1 f0) ∧ S1 = ks_set S0 o (kJ 1 (va_up f0 0 (nI 20).toInt64)), by decide, (hl_digest_ok (d := 16) htr h0 (c_jd_digest1 (d := 11) h0 hT hC.2.1.1.1.2.1 hC.1.2.1) (fun z S1 y => ⟨_, f, y.1, y.2.1.at ho (by simp only [List.mem_cons, List.not_mem_nil, or_false]; omega)⟩)).mono (fun z S1 y => ?_), ?_⟩
      · obtain ⟨e, v, S0, f0, ⟨ev, u, hb⟩, y2, y3⟩ := y
        cases ev
        exact ⟨e, S0, f0, u, hb, y2, y3⟩
      · rintro S1 ⟨S0, f0, u, ⟨hh, hb⟩, e1, rfl⟩

        have hC1 := hC.up u (T1 := bytL (ripe_ (mg T) T.length) 0 20) (by decide) (u.at h0 (by decide)) hb (Or.inr (by decide)) (Or.inr (by decide)) (Or.inr ⟨Or.inl hh, by decide⟩) (Or.inr (by decide)) (Or.inr (by decide)) (Or.inr (by decide)) (Or.inr (by decide)) (by decide) (Or.inr (by decide)) (Or.inr (by decide)) (hDs.ex u.ex9 (by decide) (by have := hR.2.2.2.2.2.2.2.2.2.2; omega))
        have hR1 := hR.lo u (by decide) (cq_low hC1)
        have hC2 := hC1.out (g := va_up f0 0 (nI 20).toInt64) e1 ho5
        have hR2 := hR1.out (g := va_up f0 0 (nI 20).toInt64) e1 ho5 (by rw [u.1]; exact hoS)
        have u1 : S0.1 = S.1 := u.1
        have u2 : S0.2.1 = S.2.1 := u.2.1
        obtain ⟨g59, k59, h59⟩ : ∃ g, kO g ∧ (ks_set S0 o (kJ 1 (va_up f0 0 (nI 20).toInt64))).2.2 305 = some (kB 32 g) := hR2.1.s (p := (305, 0, 32)) (by decide)
        refine ⟨⟨V, hR2.1.1⟩, (c_mr_digest1 (d := 12) hR2.1.1 hR2.2.2.2.2.2.2.2.1 hR2.1.2.2.2.1 hR2.1.2.2.2.2.1 h59 k59).mono (fun z S2 y => ?_)⟩
        obtain ⟨rfl, V2, p, v, mh2, mr2, h52, hB2⟩ := y

        obtain ⟨g1, g2⟩ := lw_ref (K := K) (o := o) (c := c) (C0 := S) hC2 (hR2.kd p (by decide) (hR2.1.2.2.2.2.2.1.up p.1 (by decide)) mh2 mr2 h52 (by obtain ⟨g, k, e⟩ := hR2.1.s (p := (533, 0, 65)) (by decide); exact ⟨g, k, p.1.at e (by decide)⟩) hB2) p (by decide) hr (ks_set_same _ _ _) ho5 (by show o < S0.1; omega) ⟨by show S0.1 ≤ _; omega, by show S0.2.1 ≤ _; omega⟩ r1 r2
        exact ⟨_, V2, _, rfl, p.2.1, v, g1, fun _ => va_up_self _ _ _, g2⟩
    · refine ⟨0, fun S1 => ∃ (S0 : ks_S) (f0 : Nat → Int64), ks_up S S0 [9, 8, 10, 11, 12, 2, 1] ∧ (hsO S0 ∧ bfS S0 1 2 1600 (some (bytL (h160_ (mg T) T.length) 0 20))) ∧ S0.2.2 o = some (kJ 1 f0) ∧ S1 = ks_set S0 o (kJ 1 (va_up f0 0 (nI 20).toInt64)), by decide, (hl_digest_ok (d := 16) htr h0 (c_jd_digest2 (d := 11) h0 hT hC.2.1.1.1.2.1 hC.1.2.1) (fun z S1 y => ⟨_, f, y.1, y.2.1.at ho (by simp only [List.mem_cons, List.not_mem_nil, or_false]; omega)⟩)).mono (fun z S1 y => ?_), ?_⟩
      · obtain ⟨e, v, S0, f0, ⟨ev, u, hb⟩, y2, y3⟩ := y
        cases ev
        exact ⟨e, S0, f0, u, hb, y2, y3⟩
      · rintro S1 ⟨S0, f0, u, ⟨hh, hb⟩, e1, rfl⟩

        have hC1 := hC.up u (T1 := bytL (h160_ (mg T) T.length) 0 20) (by decide) (u.at h0 (by decide)) hb (Or.inr (by decide)) (Or.inr (by decide)) (Or.inr ⟨Or.inl hh, by decide⟩) (Or.inr (by decide)) (Or.inr (by decide)) (Or.inr (by decide)) (Or.inr (by decide)) (by decide) (Or.inr (by decide)) (Or.inr (by decide)) (hDs.ex u.ex9 (by decide) (by have := hR.2.2.2.2.2.2.2.2.2.2; omega))
        have hR1 := hR.lo u (by decide) (cq_low hC1)
        have hC2 := hC1.out (g := va_up f0 0 (nI 20).toInt64) e1 ho5
        have hR2 := hR1.out (g := va_up f0 0 (nI 20).toInt64) e1 ho5 (by rw [u.1]; exact hoS)
        have u1 : S0.1 = S.1 := u.1
        have u2 : S0.2.1 = S.2.1 := u.2.1
        obtain ⟨g59, k59, h59⟩ : ∃ g, kO g ∧ (ks_set S0 o (kJ 1 (va_up f0 0 (nI 20).toInt64))).2.2 305 = some (kB 32 g) := hR2.1.s (p := (305, 0, 32)) (by decide)
        refine ⟨⟨V, hR2.1.1⟩, (c_mr_digest2 (d := 12) hR2.1.1 hR2.2.2.2.2.2.2.2.1 hR2.1.2.2.2.1 hR2.1.2.2.2.2.1 h59 k59).mono (fun z S2 y => ?_)⟩
        obtain ⟨rfl, V2, p, v, mh2, mr2, h52, hB2⟩ := y

        obtain ⟨g1, g2⟩ := lw_ref (K := K) (o := o) (c := c) (C0 := S) hC2 (hR2.kd p (by decide) (hR2.1.2.2.2.2.2.1.up p.1 (by decide)) mh2 mr2 h52 (by obtain ⟨g, k, e⟩ := hR2.1.s (p := (533, 0, 65)) (by decide); exact ⟨g, k, p.1.at e (by decide)⟩) hB2) p (by decide) hr (ks_set_same _ _ _) ho5 (by show o < S0.1; omega) ⟨by show S0.1 ≤ _; omega, by show S0.2.1 ≤ _; omega⟩ r1 r2
        exact ⟨_, V2, _, rfl, p.2.1, v, g1, fun _ => va_up_self _ _ _, g2⟩
    · refine ⟨0, fun S1 => ∃ (S0 : ks_S) (f0 : Nat → Int64), ks_up S S0 [9, 8, 10, 11, 12, 2, 1] ∧ (hsO S0 ∧ bfS S0 1 2 1600 (some (bytL (twice_ (mg T) T.length) 0 32))) ∧ S0.2.2 o = some (kJ 1 f0) ∧ S1 = ks_set S0 o (kJ 1 (va_up f0 0 (nI 32).toInt64)), by decide, (hl_digest_ok (d := 16) htr h0 (c_jd_digest3 (d := 11) h0 hT hC.2.1.1.1.2.1 hC.1.2.1) (fun z S1 y => ⟨_, f, y.1, y.2.1.at ho (by simp only [List.mem_cons, List.not_mem_nil, or_false]; omega)⟩)).mono (fun z S1 y => ?_), ?_⟩
      · obtain ⟨e, v, S0, f0, ⟨ev, u, hb⟩, y2, y3⟩ := y
        cases ev
        exact ⟨e, S0, f0, u, hb, y2, y3⟩
      · rintro S1 ⟨S0, f0, u, ⟨hh, hb⟩, e1, rfl⟩

        have hC1 := hC.up u (T1 := bytL (twice_ (mg T) T.length) 0 32) (by decide) (u.at h0 (by decide)) hb (Or.inr (by decide)) (Or.inr (by decide)) (Or.inr ⟨Or.inl hh, by decide⟩) (Or.inr (by decide)) (Or.inr (by decide)) (Or.inr (by decide)) (Or.inr (by decide)) (by decide) (Or.inr (by decide)) (Or.inr (by decide)) (hDs.ex u.ex9 (by decide) (by have := hR.2.2.2.2.2.2.2.2.2.2; omega))
        have hR1 := hR.lo u (by decide) (cq_low hC1)
        have hC2 := hC1.out (g := va_up f0 0 (nI 32).toInt64) e1 ho5
        have hR2 := hR1.out (g := va_up f0 0 (nI 32).toInt64) e1 ho5 (by rw [u.1]; exact hoS)
        have u1 : S0.1 = S.1 := u.1
        have u2 : S0.2.1 = S.2.1 := u.2.1
        obtain ⟨g59, k59, h59⟩ : ∃ g, kO g ∧ (ks_set S0 o (kJ 1 (va_up f0 0 (nI 32).toInt64))).2.2 305 = some (kB 32 g) := hR2.1.s (p := (305, 0, 32)) (by decide)
        refine ⟨⟨V, hR2.1.1⟩, (c_mr_digest3 (d := 12) hR2.1.1 hR2.2.2.2.2.2.2.2.1 hR2.1.2.2.2.1 hR2.1.2.2.2.2.1 h59 k59).mono (fun z S2 y => ?_)⟩
        obtain ⟨rfl, V2, p, v, mh2, mr2, h52, hB2⟩ := y

        obtain ⟨g1, g2⟩ := lw_ref (K := K) (o := o) (c := c) (C0 := S) hC2 (hR2.kd p (by decide) (hR2.1.2.2.2.2.2.1.up p.1 (by decide)) mh2 mr2 h52 (by obtain ⟨g, k, e⟩ := hR2.1.s (p := (533, 0, 65)) (by decide); exact ⟨g, k, p.1.at e (by decide)⟩) hB2) p (by decide) hr (ks_set_same _ _ _) ho5 (by show o < S0.1; omega) ⟨by show S0.1 ≤ _; omega, by show S0.2.1 ≤ _; omega⟩ r1 r2
        exact ⟨_, V2, _, rfl, p.2.1, v, g1, fun _ => va_up_self _ _ _, g2⟩
  · refine ⟨1, fun S1 => S1 = ks_one S, by decide, (hl_digest_no1 (d := 16) htr h0 (t_digest (d := 7) htr hSB h0 hx) (fun z S1 y => y.1)).mono (fun z S1 y => ⟨y.1, by obtain ⟨_, _, e⟩ := y.2; exact e⟩), ?_⟩
    rintro S1 rfl
    have hC1 := hC.one (by omega)
    have hR1 := hR.one (S1 := S) (L := []) (by omega) (cq_low hC)
    refine ⟨⟨V, hR1.1.1⟩, (r_digest (d := 16) hR1.1.1 hR1.2.2.2.2.2.2.2.1 hx).mono (fun z S2 y => ?_)⟩
    obtain ⟨rfl, V2, p, v⟩ := y
    obtain ⟨g1, g2⟩ := lw_ref (K := K) (o := o) (c := c) (C0 := S) hC1 (hR1.no p (by decide)) p (fun x hx => by cases hx) hr ho ho5 (Nat.lt_succ_of_lt hoS) ⟨Nat.le_refl _, Nat.le_refl _⟩ r1 r2
    exact ⟨_, V2, f, rfl, p.2.1, v, g1, fun h => absurd h (by decide), g2⟩
set_option maxRecDepth 100000 in
set_option maxHeartbeats 800000 in
theorem op_tx {l : Launch} {G : ks_G} {K : lwK} {o c : Nat} {S : ks_S} (htr : l.stackTraces = false) (hc : c ≤ 512) {x : Int64} {k : Int64} (hI : lwI K o c S) : opI l G K o c yL_tx mL_tx hL_tx yX16_tx mX16_tx [.long x, .long k] S := by
  obtain ⟨n, best, Bc, Br, C, R, t, q, dt, rs, Ds, D, T, V, F, hC, hR, hr, ⟨⟨f, ho⟩, ho5, hoS⟩, r1, r2⟩ := hI
  have h0 := hC.1.1
  have hT := hC.1.2.2.1
  have hDs := hC.2.2.2.1
  have hB9 := lw_B
  have hSB : S.1 < ks_B := hC.2.2.2.2.2.2.1.2.1
  have hn60 : n ≤ 60 := by
    obtain ⟨cc, tk, hX⟩ := hC.2.2.2.2.1
    exact hX.2.2.2
  have hS9 : S.1 + F + 50 < ks_B := by omega
  by_cases hv : unL x = false ∧ unL k = false
  · by_cases h12 : t < 12
    · have lx : ∀ x ∈ (0 :: dxL (56 + 19 * t) : List Nat), (x = 0) ∨ (56 ≤ x ∧ x ≤ 283) := fun x hx => by
        simp only [List.mem_cons] at hx
        rcases hx with h | h
        · omega
        · have := dxL_me h; have := hr.2.1; omega
      have oN : o ∉ (0 :: dxL (56 + 19 * t) : List Nat) := fun hx => by have := lx _ hx; omega
      refine ⟨0, fun S1 => ∃ (S0 : ks_S) (f0 : Nat → Int64), ks_up S S0 (0 :: dxL (56 + 19 * t)) ∧ (S0.2.2 0 = some (jdO (t + 1) q dt (nI rs)) ∧ dfS S0 (va_up Ds t (x, k, [], []))) ∧ S0.2.2 o = some (kJ 1 f0) ∧ S1 = ks_set S0 o (kJ 1 (va_up f0 0 (nI (t + 1)).toInt64)), by decide, (hl_tx_ok (d := 16) htr h0 (c_jd_tx (d := 15) h0 hDs hv.1 hv.2 h12) (fun z S1 y => ⟨_, f, y.1, y.2.1.at ho oN⟩)).mono (fun z S1 y => ?_), ?_⟩
      · obtain ⟨e, v, S0, f0, ⟨ev, u, hb⟩, y2, y3⟩ := y
        cases ev
        exact ⟨e, S0, f0, u, hb, y2, y3⟩
      · rintro S1 ⟨S0, f0, u, hb, e1, rfl⟩

        have hC1 := hC.up u (dc1 := t + 1) (Ds1 := va_up Ds t (x, k, [], [])) (fun x hx => by have := lx x hx; omega) hb.1 (hT.ag (u.2.2 _ (fun hx => by have := lx _ hx; omega)) (u.2.2 _ (fun hx => by have := lx _ hx; omega))) (Or.inr ⟨(fun hx => by have := lx _ hx; omega), (fun hx => by have := lx _ hx; omega)⟩) (Or.inr ⟨(fun hx => by have := lx _ hx; omega), (fun hx => by have := lx _ hx; omega)⟩) (Or.inr ⟨Or.inr (fun x hx => by have := lx x hx; omega), (fun x hx => by have := lx x hx; omega)⟩) (Or.inr (fun x hx => by have := lx x hx; omega)) (Or.inr (fun x hx => by have := lx x hx; omega)) (Or.inr (fun hx => by have := lx _ hx; omega)) (Or.inr (fun hx => by have := lx _ hx; omega)) ⟨(fun hx => by have := lx _ hx; omega), (fun hx => by have := lx _ hx; omega)⟩ (Or.inr (fun hx => by have := lx _ hx; omega)) (Or.inr (fun hx => by have := lx _ hx; omega)) hb.2
        have hR1 := hR.lo u (fun x hx => by have := lx x hx; omega) (cq_low hC1)
        have hC2 := hC1.out (g := va_up f0 0 (nI (t + 1)).toInt64) e1 ho5
        have hR2 := hR1.out (g := va_up f0 0 (nI (t + 1)).toInt64) e1 ho5 (by rw [u.1]; exact hoS)
        have u1 : S0.1 = S.1 := u.1
        have u2 : S0.2.1 = S.2.1 := u.2.1
        refine ⟨⟨V, hR2.1.1⟩, (c_mr_tx (d := 16) hR2.1.1 hR2.2.2.2.2.2.2.1.2 hr.2.1 hv.1 hv.2 h12 hR2.2.2.2.2.2.2.1.1).mono (fun z S2 y => ?_)⟩
        obtain ⟨rfl, V2, p, v, v94, rd2⟩ := y

        obtain ⟨g1, g2⟩ := lw_ref (K := K) (o := o) (c := c) (C0 := S) hC2 (hR2.ob p (fun x hx => Or.inr hx) (by decide) ⟨rd2, v94⟩ (hR2.tp p (fun hx => by have := mem_LDw.mp hx; omega) (by decide)) (hR2.pq p (by decide)) (hR2.p5 p (by decide))) p (fun x hx => by have := mem_LDw.mp hx; omega) ⟨hr.1, h12, hr.2.2.1, hr.2.2.2.1, fun i hi => by
          by_cases ei : i = t
          · rw [ei, va_up_self, va_up_self]
          · rw [va_up_ne _ _ ei, va_up_ne _ _ ei]; exact hr.2.2.2.2.1 i (by omega), hr.2.2.2.2.2⟩ (ks_set_same _ _ _) ho5 (by show o < S0.1; omega) ⟨by show S0.1 ≤ _; omega, by show S0.2.1 ≤ _; omega⟩ r1 r2
        exact ⟨_, V2, _, rfl, p.2.1, v, g1, fun _ => va_up_self _ _ _, g2⟩
    · have e12 : t = 12 := by have := hr.2.1; omega
      refine ⟨2, fun S1 => S1 = ks_one S, by decide, (hl_tx_no0 (d := 16) htr h0 (t_txF (d := 7) htr hSB h0 hv.1 hv.2 e12) (fun z S1 y => y.1)).mono (fun z S1 y => ⟨y.1, by obtain ⟨_, _, e⟩ := y.2; exact e⟩), ?_⟩
      rintro S1 rfl
      have hC1 := hC.one (by omega)
      have hR1 := hR.one (S1 := S) (L := []) (by omega) (cq_low hC)
      refine ⟨⟨V, hR1.1.1⟩, (r_txF (d := 16) hR1.1.1 hR1.2.2.2.2.2.2.1.2 hr.2.1 hv.1 hv.2 e12).mono (fun z S2 y => ?_)⟩
      obtain ⟨rfl, V2, p, v⟩ := y
      obtain ⟨g1, g2⟩ := lw_ref (K := K) (o := o) (c := c) (C0 := S) hC1 (hR1.no p (by decide)) p (fun x hx => by cases hx) hr ho ho5 (Nat.lt_succ_of_lt hoS) ⟨Nat.le_refl _, Nat.le_refl _⟩ r1 r2
      exact ⟨_, V2, f, rfl, p.2.1, v, g1, fun h => absurd h (by decide), g2⟩
  · refine ⟨1, fun S1 => S1 = ks_one S, by decide, (hl_tx_no1 (d := 16) htr h0 (t_tx (d := 7) htr hSB h0 hv) (fun z S1 y => y.1)).mono (fun z S1 y => ⟨y.1, by obtain ⟨_, _, e⟩ := y.2; exact e⟩), ?_⟩
    rintro S1 rfl
    have hC1 := hC.one (by omega)
    have hR1 := hR.one (S1 := S) (L := []) (by omega) (cq_low hC)
    refine ⟨⟨V, hR1.1.1⟩, (r_tx (d := 16) hR1.1.1 hR1.2.2.2.2.2.2.1.2 hr.2.1 hv).mono (fun z S2 y => ?_)⟩
    obtain ⟨rfl, V2, p, v⟩ := y
    obtain ⟨g1, g2⟩ := lw_ref (K := K) (o := o) (c := c) (C0 := S) hC1 (hR1.no p (by decide)) p (fun x hx => by cases hx) hr ho ho5 (Nat.lt_succ_of_lt hoS) ⟨Nat.le_refl _, Nat.le_refl _⟩ r1 r2
    exact ⟨_, V2, f, rfl, p.2.1, v, g1, fun h => absurd h (by decide), g2⟩
theorem rd_o6 {S : ks_S} {t i : Nat} {D : Nat → dTx} (h : rdS S t D) (hi : i < t) : (D i).2.2.2.length ≤ 6 := by
  obtain ⟨-, ver, loc, inp, out, ids, ix, seq, iln, val, oln, sc, so, -, hA⟩ := h
  obtain ⟨e, h1, h2, -⟩ := hA i hi
  rw [e]
  show ((List.range (out i)).map _).length ≤ 6
  rw [List.length_map, List.length_range]
  exact h2
theorem rd_i6 {S : ks_S} {t i : Nat} {D : Nat → dTx} (h : rdS S t D) (hi : i < t) : (D i).2.2.1.length ≤ 6 := by
  obtain ⟨-, ver, loc, inp, out, ids, ix, seq, iln, val, oln, sc, so, -, hA⟩ := h
  obtain ⟨e, h1, h2, -⟩ := hA i hi
  rw [e]
  show ((List.range (inp i)).map _).length ≤ 6
  rw [List.length_map, List.length_range]
  exact h1
set_option maxRecDepth 100000 in
set_option maxHeartbeats 800000 in
theorem op_output {l : Launch} {G : ks_G} {K : lwK} {o c : Nat} {S : ks_S} (htr : l.stackTraces = false) (hc : c ≤ 512) {x : Int64} (hI : lwI K o c S) : opI l G K o c yL_output mL_output hL_output yX16_output_ mX16_output_ [.long x] S := by
  obtain ⟨n, best, Bc, Br, C, R, t, q, dt, rs, Ds, D, T, V, F, hC, hR, hr, ⟨⟨f, ho⟩, ho5, hoS⟩, r1, r2⟩ := hI
  have h0 := hC.1.1
  have hT := hC.1.2.2.1
  have hDs := hC.2.2.2.1
  have hB9 := lw_B
  have hSB : S.1 < ks_B := hC.2.2.2.2.2.2.1.2.1
  have hn60 : n ≤ 60 := by
    obtain ⟨cc, tk, hX⟩ := hC.2.2.2.2.1
    exact hX.2.2.2
  have hS9 : S.1 + F + 50 < ks_B := by omega
  cases t with
  | zero =>
    refine ⟨1, fun S1 => S1 = ks_one S, by decide, (hl_output_no2 (d := 16) htr h0 (t_outputS (d := 7) htr hSB h0 rfl) (fun z S1 y => y.1)).mono (fun z S1 y => ⟨y.1, by obtain ⟨_, _, e⟩ := y.2; exact e⟩), ?_⟩
    rintro S1 rfl
    have hC1 := hC.one (by omega)
    have hR1 := hR.one (S1 := S) (L := []) (by omega) (cq_low hC)
    refine ⟨⟨V, hR1.1.1⟩, (r_outputS (d := 16) hR1.1.1 hR1.2.2.2.2.2.2.1.2 (by decide) rfl).mono (fun z S2 y => ?_)⟩
    obtain ⟨rfl, V2, p, v⟩ := y
    obtain ⟨g1, g2⟩ := lw_ref (K := K) (o := o) (c := c) (C0 := S) hC1 (hR1.no p (by decide)) p (fun x hx => by cases hx) hr ho ho5 (Nat.lt_succ_of_lt hoS) ⟨Nat.le_refl _, Nat.le_refl _⟩ r1 r2
    exact ⟨_, V2, f, rfl, p.2.1, v, g1, fun h => absurd h (by decide), g2⟩
  | succ i =>
    have eD : D i = Ds i := hr.2.2.2.2.1 i (Nat.lt_succ_self i)
    have v94 := hR.2.2.2.2.2.2.1.2
    have hdc : 0 < i + 1 ∧ i + 1 ≤ 12 := ⟨Nat.succ_pos _, hr.2.1⟩
    by_cases hf : (Ds i).2.2.2.length ≠ 6 ∧ T.length ≤ 600
    · have ho6 : (Ds i).2.2.2.length < 6 := by
        have h6 : (Ds i).2.2.2.length ≤ 6 := by rw [← eD]; exact rd_o6 hR.2.2.2.2.2.2.1.1 (Nat.lt_succ_self i)
        omega
      have lx : ∀ x ∈ (1 :: 2 :: dxL (56 + 19 * (i + 1 - 1)) : List Nat), (x = 1 ∨ x = 2) ∨ (56 ≤ x ∧ x ≤ 283) := fun x hx => by
        simp only [List.mem_cons] at hx
        rcases hx with h | h | h
        · omega
        · omega
        · have := dxL_me h; omega
      have oN : o ∉ (1 :: 2 :: dxL (56 + 19 * (i + 1 - 1)) : List Nat) := fun hx => by have := lx _ hx; omega
      refine ⟨0, fun S1 => ∃ (S0 : ks_S) (f0 : Nat → Int64), ks_up S S0 (1 :: 2 :: dxL (56 + 19 * (i + 1 - 1))) ∧ (bfS S0 1 2 1600 (some []) ∧ dfS S0 (va_up Ds i ((Ds i).1, (Ds i).2.1, (Ds i).2.2.1, (Ds i).2.2.2 ++ [(x, T)]))) ∧ S0.2.2 o = some (kJ 1 f0) ∧ S1 = ks_set S0 o (kJ 1 (va_up f0 0 (nI ((Ds i).2.2.2.length + 1)).toInt64)), by decide, (hl_output_ok (d := 16) htr h0 (c_jd_output (d := 13) h0 hT hDs hdc hf.2 ho6) (fun z S1 y => ⟨_, f, y.1, y.2.1.at ho oN⟩)).mono (fun z S1 y => ?_), ?_⟩
      · obtain ⟨e, v, S0, f0, ⟨ev, u, hb⟩, y2, y3⟩ := y
        cases ev
        exact ⟨e, S0, f0, u, hb, y2, y3⟩
      · rintro S1 ⟨S0, f0, u, hb, e1, rfl⟩

        have hC1 := hC.up u (Ds1 := va_up Ds i ((Ds i).1, (Ds i).2.1, (Ds i).2.2.1, (Ds i).2.2.2 ++ [(x, T)])) (T1 := []) (fun x hx => by have := lx x hx; omega) (u.at h0 (fun hx => by have := lx _ hx; omega)) hb.1 (Or.inr ⟨(fun hx => by have := lx _ hx; omega), (fun hx => by have := lx _ hx; omega)⟩) (Or.inr ⟨(fun hx => by have := lx _ hx; omega), (fun hx => by have := lx _ hx; omega)⟩) (Or.inr ⟨Or.inr (fun x hx => by have := lx x hx; omega), (fun x hx => by have := lx x hx; omega)⟩) (Or.inr (fun x hx => by have := lx x hx; omega)) (Or.inr (fun x hx => by have := lx x hx; omega)) (Or.inr (fun hx => by have := lx _ hx; omega)) (Or.inr (fun hx => by have := lx _ hx; omega)) ⟨(fun hx => by have := lx _ hx; omega), (fun hx => by have := lx _ hx; omega)⟩ (Or.inr (fun hx => by have := lx _ hx; omega)) (Or.inr (fun hx => by have := lx _ hx; omega)) hb.2
        have hR1 := hR.lo u (fun x hx => by have := lx x hx; omega) (cq_low hC1)
        have hC2 := hC1.out (g := va_up f0 0 (nI ((Ds i).2.2.2.length + 1)).toInt64) e1 ho5
        have hR2 := hR1.out (g := va_up f0 0 (nI ((Ds i).2.2.2.length + 1)).toInt64) e1 ho5 (by rw [u.1]; exact hoS)
        have u1 : S0.1 = S.1 := u.1
        have u2 : S0.2.1 = S.2.1 := u.2.1
        refine ⟨⟨V, hR2.1.1⟩, (c_mr_output (d := 16) hR2.1.1 hR2.2.2.2.2.2.2.1.2 hR2.2.2.2.2.2.2.1.1 hR2.2.2.2.2.2.2.2.1 (by rw [eD]; exact ho6) hf.2).mono (fun z S2 y => ?_)⟩
        obtain ⟨rfl, V2, p, v, hB2, rd2⟩ := y

        obtain ⟨g1, g2⟩ := lw_ref (K := K) (o := o) (c := c) (C0 := S) hC2 (hR2.ob p (fun x hx => Or.inr hx) (by decide) ⟨rd2, (p.2.2 94 (by decide)).trans hR2.2.2.2.2.2.2.1.2⟩ hB2 (hR2.pq p (by decide)) (hR2.p5 p (by decide))) p (fun x hx => by have := mem_LDw.mp hx; omega) ⟨hr.1, hr.2.1, hr.2.2.1, hr.2.2.2.1, fun j hj => by
          by_cases ej : j = i
          · rw [ej, va_up_self, va_up_self, eD]
          · rw [va_up_ne _ _ ej, va_up_ne _ _ ej]; exact hr.2.2.2.2.1 j hj, hr.2.2.2.2.2⟩ (ks_set_same _ _ _) ho5 (by show o < S0.1; omega) ⟨by show S0.1 ≤ _; omega, by show S0.2.1 ≤ _; omega⟩ r1 r2
        exact ⟨_, V2, _, rfl, p.2.1, v, g1, fun _ => by rw [eD]; exact va_up_self _ _ _, g2⟩
    · refine ⟨2, fun S1 => S1 = ks_one S, by decide, (hl_output_no0 (d := 16) htr h0 (t_outputF (d := 7) htr hSB h0 hT hDs hdc hf) (fun z S1 y => y.1)).mono (fun z S1 y => ⟨y.1, by obtain ⟨_, _, e⟩ := y.2; exact e⟩), ?_⟩
      rintro S1 rfl
      have hC1 := hC.one (by omega)
      have hR1 := hR.one (S1 := S) (L := []) (by omega) (cq_low hC)
      refine ⟨⟨V, hR1.1.1⟩, (r_outputF (d := 16) hR1.1.1 hR1.2.2.2.2.2.2.1.2 hR1.2.2.2.2.2.2.1.1 hR1.2.2.2.2.2.2.2.1 (by rw [eD]; exact hf)).mono (fun z S2 y => ?_)⟩
      obtain ⟨rfl, V2, p, v⟩ := y
      obtain ⟨g1, g2⟩ := lw_ref (K := K) (o := o) (c := c) (C0 := S) hC1 (hR1.no p (by decide)) p (fun x hx => by cases hx) hr ho ho5 (Nat.lt_succ_of_lt hoS) ⟨Nat.le_refl _, Nat.le_refl _⟩ r1 r2
      exact ⟨_, V2, f, rfl, p.2.1, v, g1, fun h => absurd h (by decide), g2⟩
