/-! THE LAW: calls of both sides -/
theorem nI_dec {x : Int32} (h : ¬ x < 0) : ∃ k, k < 2 ^ 31 ∧ x = nI k := by
  rw [Int32.lt_iff_toInt_lt] at h
  have h1 : ¬ x.toInt < 0 := h
  have h2 := Int32.toInt_lt x
  refine ⟨x.toInt.toNat, by omega, Int32.toInt_inj.mp ?_⟩
  rw [nI_tI9 (by omega)]
  omega
theorem nI_le9 {a b : Nat} (ha : a < 2 ^ 31) (hb : b < 2 ^ 31) : nI a ≤ nI b ↔ a ≤ b := by
  rw [Int32.le_iff_toInt_le, nI_tI9 ha, nI_tI9 hb]
  omega
theorem nI_lt9 {a b : Nat} (ha : a < 2 ^ 31) (hb : b < 2 ^ 31) : nI a < nI b ↔ a < b := by
  rw [Int32.lt_iff_toInt_lt, nI_tI9 ha, nI_tI9 hb]
  omega
theorem bfS_len {S : ks_S} {b a N : Nat} {T : List Nat} (h : bfS S b a N (some T)) : T.length ≤ N := by
  obtain ⟨len, g, h1, h2, h3, h4, h5⟩ := h
  have e : T.length = len := h5.1
  omega
set_option maxRecDepth 100000 in
set_option maxHeartbeats 800000 in
theorem op_feed {l : Launch} {G : ks_G} {K : lwK} {o c : Nat} {S : ks_S} (htr : l.stackTraces = false) (hc : c ≤ 512) {x1 : Int32} {x2 : Int32} {x3 : Int32} {x4 : Int32} {x5 : Int32} (hI : lwI K o c S) : opI l G K o c yL_feed mL_feed hL_feed yX16_feed mX16_feed [.int x1, .int x2, .int x3, .int x4, .int x5] S := by
  obtain ⟨n, best, Bc, Br, C, R, t, q, dt, rs, Ds, D, T, V, F, hC, hR, hr, ⟨⟨f, ho⟩, ho5, hoS⟩, r1, r2⟩ := hI
  have h0 := hC.1.1
  have hT := hC.1.2.2.1
  have hDs := hC.2.2.2.1
  have hB9 := lw_B
  have hSB : S.1 < ks_B := hC.2.2.2.2.2.2.1.2.1
  have hn60 : n ≤ 60 := by
    obtain ⟨cc, tk, hX⟩ := hC.2.2.2.2.1
    exact hX.2.2.2
  have hS9 : S.1 + F + 50 < ks_B := by omega
  by_cases hf : T.length + 20 ≤ 1600
  · refine ⟨0, fun S1 => ∃ (S0 : ks_S) (f0 : Nat → Int64), ks_up S S0 [2, 1] ∧ (bfS S0 1 2 1600 (some (T ++ wdL x1 ++ wdL x2 ++ wdL x3 ++ wdL x4 ++ wdL x5))) ∧ S0.2.2 o = some (kJ 1 f0) ∧ S1 = ks_set S0 o (kJ 1 (va_up f0 0 (nI (T.length + 20)).toInt64)), by decide, (hl_feed_ok (d := 16) htr h0 (c_jd_feed (d := 14) h0 hT hf) (fun z S1 y => ⟨_, f, y.1, y.2.1.at ho (by simp only [List.mem_cons, List.not_mem_nil, or_false]; omega)⟩)).mono (fun z S1 y => ?_), ?_⟩
    · obtain ⟨e, v, S0, f0, ⟨ev, u, hb⟩, y2, y3⟩ := y
      cases ev
      exact ⟨e, S0, f0, u, hb, y2, y3⟩
    · rintro S1 ⟨S0, f0, u, hb, e1, rfl⟩
      rw [feed_eq, feed_eq, feed_eq, feed_eq, feed_eq] at hb
      have hC1 := hC.up u (T1 := T ++ fdL x1 ++ fdL x2 ++ fdL x3 ++ fdL x4 ++ fdL x5) (by decide) (u.at h0 (by decide)) hb (Or.inr (by decide)) (Or.inr (by decide)) (Or.inr ⟨Or.inr (by decide), by decide⟩) (Or.inr (by decide)) (Or.inr (by decide)) (Or.inr (by decide)) (Or.inr (by decide)) (by decide) (Or.inr (by decide)) (Or.inr (by decide)) (hDs.ex u.ex9 (by decide) (by have := hR.2.2.2.2.2.2.2.2.2.2; omega))
      have hR1 := hR.lo u (by decide) (cq_low hC1)
      have hC2 := hC1.out (g := va_up f0 0 (nI (T.length + 20)).toInt64) e1 ho5
      have hR2 := hR1.out (g := va_up f0 0 (nI (T.length + 20)).toInt64) e1 ho5 (by rw [u.1]; exact hoS)
      have u1 : S0.1 = S.1 := u.1
      have u2 : S0.2.1 = S.2.1 := u.2.1
      refine ⟨⟨V, hR2.1.1⟩, (c_mr_feed (d := 16) hR2.1.1 hR2.2.2.2.2.2.2.2.1 hf).mono (fun z S2 y => ?_)⟩
      obtain ⟨rfl, V2, p, v, hB2⟩ := y

      obtain ⟨g1, g2⟩ := lw_ref (K := K) (o := o) (c := c) (C0 := S) hC2 (hR2.ob p (fun x hx => Or.inl (List.mem_singleton.mp hx)) (by decide) (hR2.dr p (by decide) (by decide)) hB2 (hR2.pq p (by decide)) (hR2.p5 p (by decide))) p (fun x hx => by rw [List.mem_singleton] at hx; rw [hx]; decide) hr (ks_set_same _ _ _) ho5 (by show o < S0.1; omega) ⟨by show S0.1 ≤ _; omega, by show S0.2.1 ≤ _; omega⟩ r1 r2
      exact ⟨_, V2, _, rfl, p.2.1, v, g1, fun _ => va_up_self _ _ _, g2⟩
  · refine ⟨1, fun S1 => S1 = ks_one S, by decide, (hl_feed_no0 (d := 16) htr h0 (t_feed (d := 7) htr hSB h0 hT (by omega)) (fun z S1 y => y.1)).mono (fun z S1 y => ⟨y.1, by obtain ⟨_, _, e⟩ := y.2; exact e⟩), ?_⟩
    rintro S1 rfl
    have hC1 := hC.one (by omega)
    have hR1 := hR.one (S1 := S) (L := []) (by omega) (cq_low hC)
    refine ⟨⟨V, hR1.1.1⟩, (r_feed (d := 16) hR1.1.1 hR1.2.2.2.2.2.2.2.1 (by omega)).mono (fun z S2 y => ?_)⟩
    obtain ⟨rfl, V2, p, v⟩ := y
    obtain ⟨g1, g2⟩ := lw_ref (K := K) (o := o) (c := c) (C0 := S) hC1 (hR1.no p (by decide)) p (fun x hx => by cases hx) hr ho ho5 (Nat.lt_succ_of_lt hoS) ⟨Nat.le_refl _, Nat.le_refl _⟩ r1 r2
    exact ⟨_, V2, f, rfl, p.2.1, v, g1, fun h => absurd h (by decide), g2⟩
set_option maxRecDepth 100000 in
set_option maxHeartbeats 800000 in
theorem op_end {l : Launch} {G : ks_G} {K : lwK} {o c : Nat} {S : ks_S} (htr : l.stackTraces = false) (hc : c ≤ 512) {x : Int32} (hI : lwI K o c S) : opI l G K o c yL_end mL_end hL_end yX16_end mX16_end [.int x] S := by
  obtain ⟨n, best, Bc, Br, C, R, t, q, dt, rs, Ds, D, T, V, F, hC, hR, hr, ⟨⟨f, ho⟩, ho5, hoS⟩, r1, r2⟩ := hI
  have h0 := hC.1.1
  have hT := hC.1.2.2.1
  have hDs := hC.2.2.2.1
  have hB9 := lw_B
  have hSB : S.1 < ks_B := hC.2.2.2.2.2.2.1.2.1
  have hn60 : n ≤ 60 := by
    obtain ⟨cc, tk, hX⟩ := hC.2.2.2.2.1
    exact hX.2.2.2
  have hS9 : S.1 + F + 50 < ks_B := by omega
  by_cases hx : ¬ x < 0 ∧ x ≤ nI T.length
  · obtain ⟨k, hk9, rfl⟩ := nI_dec hx.1
    have hk : k ≤ T.length := (nI_le9 hk9 (by have := bfS_len hT; omega)).mp hx.2
    refine ⟨0, fun S1 => ∃ (S0 : ks_S) (f0 : Nat → Int64), ks_up S S0 [2, 1] ∧ (bfS S0 1 2 1600 (some (T.take k))) ∧ S0.2.2 o = some (kJ 1 f0) ∧ S1 = ks_set S0 o (kJ 1 (va_up f0 0 (nI k).toInt64)), by decide, (hl_end_ok (d := 16) htr h0 (c_jd_end (d := 16) h0 hT hk) (fun z S1 y => ⟨_, f, y.1, y.2.1.at ho (by simp only [List.mem_cons, List.not_mem_nil, or_false]; omega)⟩)).mono (fun z S1 y => ?_), ?_⟩
    · obtain ⟨e, v, S0, f0, ⟨ev, u, hb⟩, y2, y3⟩ := y
      cases ev
      exact ⟨e, S0, f0, u, hb, y2, y3⟩
    · rintro S1 ⟨S0, f0, u, hb, e1, rfl⟩

      have hC1 := hC.up u (T1 := T.take k) (by decide) (u.at h0 (by decide)) hb (Or.inr (by decide)) (Or.inr (by decide)) (Or.inr ⟨Or.inr (by decide), by decide⟩) (Or.inr (by decide)) (Or.inr (by decide)) (Or.inr (by decide)) (Or.inr (by decide)) (by decide) (Or.inr (by decide)) (Or.inr (by decide)) (hDs.ex u.ex9 (by decide) (by have := hR.2.2.2.2.2.2.2.2.2.2; omega))
      have hR1 := hR.lo u (by decide) (cq_low hC1)
      have hC2 := hC1.out (g := va_up f0 0 (nI k).toInt64) e1 ho5
      have hR2 := hR1.out (g := va_up f0 0 (nI k).toInt64) e1 ho5 (by rw [u.1]; exact hoS)
      have u1 : S0.1 = S.1 := u.1
      have u2 : S0.2.1 = S.2.1 := u.2.1
      refine ⟨⟨V, hR2.1.1⟩, (c_mr_end (d := 16) hR2.1.1 hR2.2.2.2.2.2.2.2.1 hk).mono (fun z S2 y => ?_)⟩
      obtain ⟨rfl, V2, p, v, hB2⟩ := y

      obtain ⟨g1, g2⟩ := lw_ref (K := K) (o := o) (c := c) (C0 := S) hC2 (hR2.ob p (fun x hx => by cases hx) (by decide) (hR2.dr p (fun x hx => by cases hx) (by decide)) hB2 (hR2.pq p (by decide)) (hR2.p5 p (by decide))) p (fun x hx => by cases hx) hr (ks_set_same _ _ _) ho5 (by show o < S0.1; omega) ⟨by show S0.1 ≤ _; omega, by show S0.2.1 ≤ _; omega⟩ r1 r2
      exact ⟨_, V2, _, rfl, p.2.1, v, g1, fun _ => va_up_self _ _ _, g2⟩
  · refine ⟨1, fun S1 => S1 = ks_one S, by decide, (hl_end_no1 (d := 16) htr h0 (t_end (d := 7) htr hSB h0 hT hx) (fun z S1 y => y.1)).mono (fun z S1 y => ⟨y.1, by obtain ⟨_, _, e⟩ := y.2; exact e⟩), ?_⟩
    rintro S1 rfl
    have hC1 := hC.one (by omega)
    have hR1 := hR.one (S1 := S) (L := []) (by omega) (cq_low hC)
    refine ⟨⟨V, hR1.1.1⟩, (r_end (d := 16) hR1.1.1 hR1.2.2.2.2.2.2.2.1 hx).mono (fun z S2 y => ?_)⟩
    obtain ⟨rfl, V2, p, v⟩ := y
    obtain ⟨g1, g2⟩ := lw_ref (K := K) (o := o) (c := c) (C0 := S) hC1 (hR1.no p (by decide)) p (fun x hx => by cases hx) hr ho ho5 (Nat.lt_succ_of_lt hoS) ⟨Nat.le_refl _, Nat.le_refl _⟩ r1 r2
    exact ⟨_, V2, f, rfl, p.2.1, v, g1, fun h => absurd h (by decide), g2⟩
set_option maxRecDepth 100000 in
set_option maxHeartbeats 800000 in
theorem op_patch {l : Launch} {G : ks_G} {K : lwK} {o c : Nat} {S : ks_S} (htr : l.stackTraces = false) (hc : c ≤ 512) {x : Int32} {v : Int32} (hI : lwI K o c S) : opI l G K o c yL_patch mL_patch hL_patch yX16_patch mX16_patch [.int x, .int v] S := by
  obtain ⟨n, best, Bc, Br, C, R, t, q, dt, rs, Ds, D, T, V, F, hC, hR, hr, ⟨⟨f, ho⟩, ho5, hoS⟩, r1, r2⟩ := hI
  have h0 := hC.1.1
  have hT := hC.1.2.2.1
  have hDs := hC.2.2.2.1
  have hB9 := lw_B
  have hSB : S.1 < ks_B := hC.2.2.2.2.2.2.1.2.1
  have hn60 : n ≤ 60 := by
    obtain ⟨cc, tk, hX⟩ := hC.2.2.2.2.1
    exact hX.2.2.2
  have hS9 : S.1 + F + 50 < ks_B := by omega
  by_cases hx : ¬ x < 0 ∧ x < nI T.length
  · obtain ⟨k, hk9, rfl⟩ := nI_dec hx.1
    have hk : k < T.length := (nI_lt9 hk9 (by have := bfS_len hT; omega)).mp hx.2
    refine ⟨0, fun S1 => ∃ (S0 : ks_S) (f0 : Nat → Int64), ks_up S S0 [2, 1] ∧ (bfS S0 1 2 1600 (some (T.set k (ks_by v)))) ∧ S0.2.2 o = some (kJ 1 f0) ∧ S1 = ks_set S0 o (kJ 1 (va_up f0 0 (nI (mg T k)).toInt64)), by decide, (hl_patch_ok (d := 16) htr h0 (c_jd_patch (d := 16) h0 hT hk) (fun z S1 y => ⟨_, f, y.1, y.2.1.at ho (by simp only [List.mem_cons, List.not_mem_nil, or_false]; omega)⟩)).mono (fun z S1 y => ?_), ?_⟩
    · obtain ⟨e, vv, S0, f0, ⟨ev, u, hb⟩, y2, y3⟩ := y
      cases ev
      exact ⟨e, S0, f0, u, hb, y2, y3⟩
    · rintro S1 ⟨S0, f0, u, hb, e1, rfl⟩

      have hC1 := hC.up u (T1 := T.set k (ks_by v)) (by decide) (u.at h0 (by decide)) hb (Or.inr (by decide)) (Or.inr (by decide)) (Or.inr ⟨Or.inr (by decide), by decide⟩) (Or.inr (by decide)) (Or.inr (by decide)) (Or.inr (by decide)) (Or.inr (by decide)) (by decide) (Or.inr (by decide)) (Or.inr (by decide)) (hDs.ex u.ex9 (by decide) (by have := hR.2.2.2.2.2.2.2.2.2.2; omega))
      have hR1 := hR.lo u (by decide) (cq_low hC1)
      have hC2 := hC1.out (g := va_up f0 0 (nI (mg T k)).toInt64) e1 ho5
      have hR2 := hR1.out (g := va_up f0 0 (nI (mg T k)).toInt64) e1 ho5 (by rw [u.1]; exact hoS)
      have u1 : S0.1 = S.1 := u.1
      have u2 : S0.2.1 = S.2.1 := u.2.1
      refine ⟨⟨V, hR2.1.1⟩, (c_mr_patch (d := 16) hR2.1.1 hR2.2.2.2.2.2.2.2.1 hk).mono (fun z S2 y => ?_)⟩
      obtain ⟨rfl, V2, p, vv, hB2⟩ := y

      obtain ⟨g1, g2⟩ := lw_ref (K := K) (o := o) (c := c) (C0 := S) hC2 (hR2.ob p (fun x hx => Or.inl (List.mem_singleton.mp hx)) (by decide) (hR2.dr p (by decide) (by decide)) hB2 (hR2.pq p (by decide)) (hR2.p5 p (by decide))) p (fun x hx => by rw [List.mem_singleton] at hx; rw [hx]; decide) hr (ks_set_same _ _ _) ho5 (by show o < S0.1; omega) ⟨by show S0.1 ≤ _; omega, by show S0.2.1 ≤ _; omega⟩ r1 r2
      exact ⟨_, V2, _, rfl, p.2.1, vv, g1, fun _ => va_up_self _ _ _, g2⟩
  · refine ⟨1, fun S1 => S1 = ks_one S, by decide, (hl_patch_no1 (d := 16) htr h0 (t_patch (d := 7) htr hSB h0 hT hx) (fun z S1 y => y.1)).mono (fun z S1 y => ⟨y.1, by obtain ⟨_, _, e⟩ := y.2; exact e⟩), ?_⟩
    rintro S1 rfl
    have hC1 := hC.one (by omega)
    have hR1 := hR.one (S1 := S) (L := []) (by omega) (cq_low hC)
    refine ⟨⟨V, hR1.1.1⟩, (r_patch (d := 16) hR1.1.1 hR1.2.2.2.2.2.2.2.1 hx).mono (fun z S2 y => ?_)⟩
    obtain ⟨rfl, V2, p, vv⟩ := y
    obtain ⟨g1, g2⟩ := lw_ref (K := K) (o := o) (c := c) (C0 := S) hC1 (hR1.no p (by decide)) p (fun x hx => by cases hx) hr ho ho5 (Nat.lt_succ_of_lt hoS) ⟨Nat.le_refl _, Nat.le_refl _⟩ r1 r2
    exact ⟨_, V2, f, rfl, p.2.1, vv, g1, fun h => absurd h (by decide), g2⟩
set_option maxRecDepth 100000 in
set_option maxHeartbeats 800000 in
theorem op_word {l : Launch} {G : ks_G} {K : lwK} {o c : Nat} {S : ks_S} (htr : l.stackTraces = false) (hc : c ≤ 512) {x : Int32} (hI : lwI K o c S) : opJ l G K o c yL_word mL_word hL_word yX16_word mX16_word [.int x] S := by
  obtain ⟨n, best, Bc, Br, C, R, t, q, dt, rs, Ds, D, T, V, F, hC, hR, hr, ⟨⟨f, ho⟩, ho5, hoS⟩, r1, r2⟩ := hI
  have h0 := hC.1.1
  have hT := hC.1.2.2.1
  have hDs := hC.2.2.2.1
  have hB9 := lw_B
  have hSB : S.1 < ks_B := hC.2.2.2.2.2.2.1.2.1
  have hn60 : n ≤ 60 := by
    obtain ⟨cc, tk, hX⟩ := hC.2.2.2.2.1
    exact hX.2.2.2
  have hS9 : S.1 + F + 50 < ks_B := by omega
  by_cases hx : ¬ x < 0 ∧ x < nI T.length
  · obtain ⟨k, hk9, rfl⟩ := nI_dec hx.1
    have hk : k < T.length := (nI_lt9 hk9 (by have := bfS_len hT; omega)).mp hx.2
    refine ⟨0, fun S1 => S1 = ks_set S o (kJ 1 (va_up f 0 (lN (wdN T k 8)))), by decide, (hl_word_ok (d := 16) htr h0 (c_jd_word (d := 16) h0 hT hk) (fun z S1 y => ⟨_, f, y.1, by rw [y.2]; exact ho⟩)).mono (fun z S1 y => ?_), ?_⟩
    · obtain ⟨e, v, S0, f0, ⟨ev, e0⟩, y2, y3⟩ := y
      cases ev
      subst e0
      have ef : f0 = f := by
        rw [ho] at y2
        cases y2
        rfl
      rw [ef] at y3
      exact ⟨e, y3⟩
    · rintro S1 rfl

      have hC2 := hC.out (g := va_up f 0 (lN (wdN T k 8))) ho ho5
      have hR2 := hR.out (g := va_up f 0 (lN (wdN T k 8))) ho ho5 hoS
      refine ⟨⟨V, hR2.1.1⟩, (c_mr_word (d := 16) hR2.1.1 hR2.2.2.2.2.2.2.2.1 hk).mono (fun z S2 y => ?_)⟩
      obtain ⟨rfl, V2, p, v⟩ := y
      obtain ⟨g1, g2⟩ := lw_ref (K := K) (o := o) (c := c) (C0 := S) hC2 (hR2.no p (by decide)) p (fun x hx => by cases hx) hr (ks_set_same _ _ _) ho5 hoS ⟨Nat.le_succ _, by show S.2.1 ≤ _; omega⟩ r1 r2
      exact ⟨_, V2, _, rfl, p.2.1, v, g1, fun _ => va_up_self _ _ _, g2⟩
  · refine ⟨1, fun S1 => S1 = ks_one S, by decide, (hl_word_no0 (d := 16) htr h0 (t_word (d := 7) htr hSB h0 hT hx) (fun z S1 y => y.1)).mono (fun z S1 y => ⟨y.1, by obtain ⟨_, _, e⟩ := y.2; exact e⟩), ?_⟩
    rintro S1 rfl
    have hC1 := hC.one (by omega)
    have hR1 := hR.one (S1 := S) (L := []) (by omega) (cq_low hC)
    refine ⟨⟨V, hR1.1.1⟩, (r_word (d := 16) hR1.1.1 hR1.2.2.2.2.2.2.2.1 hx).mono (fun z S2 y => ?_)⟩
    obtain ⟨rfl, V2, p, v⟩ := y
    obtain ⟨g1, g2⟩ := lw_ref (K := K) (o := o) (c := c) (C0 := S) hC1 (hR1.no p (by decide)) p (fun x hx => by cases hx) hr ho ho5 (Nat.lt_succ_of_lt hoS) ⟨Nat.le_refl _, Nat.le_refl _⟩ r1 r2
    exact ⟨_, V2, f, rfl, p.2.1, v, g1, fun h => absurd h (by decide), g2⟩
