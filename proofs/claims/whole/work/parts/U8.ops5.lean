/-! THE LAW: calls of both sides: key, sign, coins -/
/-- what the law asks of the curve: keys and signatures of both sides are the same -/
def lwM : Prop := (∀ c x y, 1 ≤ c → c < 2 ^ 31 → afP (kG c) x y → x = pkX (rkG gpG c) ∧ y = pkY (rkG gpG c)) ∧ (∀ (kn : Nat) (gh gh' : Nat → Nat) (x0 s ty : Nat), 1 ≤ kn → kn < 2 ^ 31 → ty < 256 → bytL gh 0 32 = bytL gh' 0 32 → wsN kn gh x0 s → wsL (x0 % nN) s ty = rsW gpG kn gh' ty) ∧ ∀ (kn : Nat) (gh gh' : Nat → Nat) (ty : Nat), bytL gh 0 32 = bytL gh' 0 32 → rsW gpG kn gh ty = rsW gpG kn gh' ty
theorem mcZ_cu {S S1 : ks_S} {L : List Nat} (h : mcZ S) (u : ks_up S S1 L) (hc : cuI S1) (hh : hsO S1) (hL : ∀ x ∈ L, x < 27 ∨ 40 < x) : mcZ S1 := by
  have hg : ∀ a, 27 ≤ a → a ≤ 40 → S1.2.2 a = S.2.2 a := fun a h1 h2 => u.2.2 a (fun hm => by have := hL a hm; omega)
  obtain ⟨⟨h1, h2, ⟨g, h3, h4⟩, ⟨o1, h5⟩, o2, h6⟩, ⟨xs, ys, u9, h7⟩, ⟨dn, h8⟩, vw, ji, vc, j1, j2, j3, j4, j5, j6, i1, i2, i3, i4, h9⟩ := h
  exact ⟨⟨hc, hh, ⟨g, h3, (hg _ (by decide) (by decide)).trans h4⟩, ⟨o1, h5.ag (hg _ (by decide) (by decide)) (hg _ (by decide) (by decide))⟩, o2, h6.ag (hg _ (by decide) (by decide)) (hg _ (by decide) (by decide))⟩, ⟨xs, ys, u9, h7.ag (fun a h1 h2 => hg a (by omega) (by omega))⟩, ⟨dn, (hg _ (by decide) (by decide)).trans h8⟩, vw, ji, vc, j1, j2, j3, j4, j5, j6, i1, i2, i3, i4, (hg _ (by decide) (by decide)).trans h9⟩
theorem nI_dec1 {x : Int32} (h : ¬ x < nI 1) : ∃ k, 1 ≤ k ∧ k < 2 ^ 31 ∧ x = nI k := by
  rw [Int32.lt_iff_toInt_lt, nI_tI9 (by decide)] at h
  have h2 := Int32.toInt_lt x
  refine ⟨x.toInt.toNat, by omega, by omega, Int32.toInt_inj.mp ?_⟩
  rw [nI_tI9 (by omega)]
  omega
set_option maxRecDepth 100000 in
set_option maxHeartbeats 3200000 in
theorem op_key {l : Launch} {G : ks_G} {K : lwK} {o c : Nat} {S : ks_S} (htr : l.stackTraces = false) (hc : c ≤ 512) {x : Int32} {y : Int32} (hm : lwM) (hI : lwI K o c S) : opI l G K o c yL_key mL_key hL_key yX16_key mX16_key [.int x, .int y] S := by
  obtain ⟨n, best, Bc, Br, C, R, t, q, dt, rs, Ds, D, T, V, F, hC, hR, hr, ⟨⟨f, ho⟩, ho5, hoS⟩, r1, r2⟩ := hI
  have h0 := hC.1.1
  have hT := hC.1.2.2.1
  have hDs := hC.2.2.2.1
  have hB9 := lw_B
  have hSB : S.1 < ks_B := hC.2.2.2.2.2.2.1.2.1
  have hn60 : n ≤ 60 := by
    obtain ⟨cc, tk, hX⟩ := hC.2.2.2.2.1
    exact hX.2.2.2
  have hS9 : S.1 + F + 50 < ks_B := by omega
  obtain ⟨ow9, hw9⟩ := hC.1.2.2.2.2
  by_cases hx : ¬ x < nI 1 ∧ ¬ y < 0 ∧ y ≤ nI 2
  · obtain ⟨k, hc1, hc9, rfl⟩ := nI_dec1 hx.1
    obtain ⟨j, hj9, rfl⟩ := nI_dec hx.2.1
    have hj : j ≤ 2 := (nI_le9 hj9 (by decide)).mp hx.2.2
    have hj2 : j = 0 ∨ j = 1 ∨ j = 2 := by omega
    clear hj hj9
    rcases hj2 with rfl | rfl | rfl
    · by_cases hf : T.length + 33 ≤ 1600
      · refine ⟨0, fun S1 => ∃ (S0 : ks_S) (f0 : Nat → Int64), ks_up S S0 [16, 18, 19, 9, 8, 10, 11, 12, 6, 5, 2, 1] ∧ (cuI S0 ∧ hsO S0 ∧ (∃ ow, bfS S0 5 6 8000 ow) ∧ ∃ x y, afP (kG k) x y ∧ bfS S0 1 2 1600 (some (T ++ keyL false x y))) ∧ S0.2.2 o = some (kJ 1 f0) ∧ S1 = ks_set S0 o (kJ 1 (va_up f0 0 (nI (T.length + 33)).toInt64)), by decide, (hl_key_ok (d := 16) htr h0 (c_jd_key0 (d := 11) h0 hT hc1 hc9 hw9 hC.2.1.1.1.1 hC.2.1.1.1.2.1 hC.1.2.1 hf) (fun z S1 y => ⟨_, f, y.1, y.2.1.at ho (by simp only [List.mem_cons, List.not_mem_nil, or_false]; omega)⟩)).mono (fun z S1 y => ?_), ?_⟩
        · obtain ⟨e, v, S0, f0, ⟨ev, u, hb⟩, y2, y3⟩ := y
          cases ev
          exact ⟨e, S0, f0, u, hb, y2, y3⟩
        · rintro S1 ⟨S0, f0, u, ⟨hcu, hh, how, xk, yk, haf, hb⟩, e1, rfl⟩
          obtain ⟨ex, ey⟩ := hm.1 k xk yk hc1 hc9 haf
          rw [ex, ey] at hb
          have hC1 := hC.up u (T1 := T ++ keyL false (pkX (rkG gpG k)) (pkY (rkG gpG k))) (by decide) (u.at h0 (by decide)) hb (Or.inr (by decide)) (Or.inl how) (Or.inl (mcZ_cu hC.2.1.1 u hcu hh (by decide))) (Or.inr (by decide)) (Or.inr (by decide)) (Or.inr (by decide)) (Or.inr (by decide)) (by decide) (Or.inr (by decide)) (Or.inr (by decide)) (hDs.ex u.ex9 (by decide) (by have := hR.2.2.2.2.2.2.2.2.2.2; omega))
          have hR1 := hR.lo u (by decide) (cq_low hC1)
          have hC2 := hC1.out (g := va_up f0 0 (nI (T.length + 33)).toInt64) e1 ho5
          have hR2 := hR1.out (g := va_up f0 0 (nI (T.length + 33)).toInt64) e1 ho5 (by rw [u.1]; exact hoS)
          have u1 : S0.1 = S.1 := u.1
          have u2 : S0.2.1 = S.2.1 := u.2.1
          obtain ⟨g59, k59, h59⟩ : ∃ g, kO g ∧ (ks_set S0 o (kJ 1 (va_up f0 0 (nI (T.length + 33)).toInt64))).2.2 305 = some (kB 32 g) := hR2.1.s (p := (305, 0, 32)) (by decide)
          obtain ⟨g53, k53, h53⟩ : ∃ g, kO g ∧ (ks_set S0 o (kJ 1 (va_up f0 0 (nI (T.length + 33)).toInt64))).2.2 533 = some (kB 65 g) := hR2.1.s (p := (533, 0, 65)) (by decide)
          refine ⟨⟨V, hR2.1.1⟩, (c_mr_key0 (d := 11) hR2.1.1 hR2.2.2.2.2.2.2.2.1 hc1 hc9 hR2.1.2.2.2.2.2.1 hR2.1.2.2.2.1 hR2.1.2.2.2.2.1 h59 k59 h53 k53 hf).mono (fun z S2 y => ?_)⟩
          obtain ⟨rfl, V2, p, v, cc2, mh2, mr2, h52, h532, hB2⟩ := y

          obtain ⟨g1, g2⟩ := lw_ref (K := K) (o := o) (c := c) (C0 := S) hC2 (hR2.kd p (fun x hx => hx) cc2 mh2 mr2 h52 h532 hB2) p (by decide) hr (ks_set_same _ _ _) ho5 (by show o < S0.1; omega) ⟨by show S0.1 ≤ _; omega, by show S0.2.1 ≤ _; omega⟩ r1 r2
          exact ⟨_, V2, _, rfl, p.2.1, v, g1, fun _ => va_up_self _ _ _, g2⟩
      · refine ⟨2, fun S1 => S1 = ks_one S, by decide, (hl_key_no0 (d := 16) htr h0 (t_keyF0 (d := 7) htr hSB h0 hT hx.1 (by omega)) (fun z S1 y => y.1)).mono (fun z S1 y => ⟨y.1, by obtain ⟨_, _, e⟩ := y.2; exact e⟩), ?_⟩
        rintro S1 rfl
        have hC1 := hC.one (by omega)
        have hR1 := hR.one (S1 := S) (L := []) (by omega) (cq_low hC)
        refine ⟨⟨V, hR1.1.1⟩, (r_keyF0 (d := 16) hR1.1.1 hR1.2.2.2.2.2.2.2.1 hx.1 (by omega)).mono (fun z S2 y => ?_)⟩
        obtain ⟨rfl, V2, p, v⟩ := y
        obtain ⟨g1, g2⟩ := lw_ref (K := K) (o := o) (c := c) (C0 := S) hC1 (hR1.no p (by decide)) p (fun x hx => by cases hx) hr ho ho5 (Nat.lt_succ_of_lt hoS) ⟨Nat.le_refl _, Nat.le_refl _⟩ r1 r2
        exact ⟨_, V2, f, rfl, p.2.1, v, g1, fun h => absurd h (by decide), g2⟩
    · by_cases hf : T.length + 65 ≤ 1600
      · refine ⟨0, fun S1 => ∃ (S0 : ks_S) (f0 : Nat → Int64), ks_up S S0 [16, 18, 19, 9, 8, 10, 11, 12, 6, 5, 2, 1] ∧ (cuI S0 ∧ hsO S0 ∧ (∃ ow, bfS S0 5 6 8000 ow) ∧ ∃ x y, afP (kG k) x y ∧ bfS S0 1 2 1600 (some (T ++ keyL true x y))) ∧ S0.2.2 o = some (kJ 1 f0) ∧ S1 = ks_set S0 o (kJ 1 (va_up f0 0 (nI (T.length + 65)).toInt64)), by decide, (hl_key_ok (d := 16) htr h0 (c_jd_key1 (d := 11) h0 hT hc1 hc9 hw9 hC.2.1.1.1.1 hC.2.1.1.1.2.1 hC.1.2.1 hf) (fun z S1 y => ⟨_, f, y.1, y.2.1.at ho (by simp only [List.mem_cons, List.not_mem_nil, or_false]; omega)⟩)).mono (fun z S1 y => ?_), ?_⟩
        · obtain ⟨e, v, S0, f0, ⟨ev, u, hb⟩, y2, y3⟩ := y
          cases ev
          exact ⟨e, S0, f0, u, hb, y2, y3⟩
        · rintro S1 ⟨S0, f0, u, ⟨hcu, hh, how, xk, yk, haf, hb⟩, e1, rfl⟩
          obtain ⟨ex, ey⟩ := hm.1 k xk yk hc1 hc9 haf
          rw [ex, ey] at hb
          have hC1 := hC.up u (T1 := T ++ keyL true (pkX (rkG gpG k)) (pkY (rkG gpG k))) (by decide) (u.at h0 (by decide)) hb (Or.inr (by decide)) (Or.inl how) (Or.inl (mcZ_cu hC.2.1.1 u hcu hh (by decide))) (Or.inr (by decide)) (Or.inr (by decide)) (Or.inr (by decide)) (Or.inr (by decide)) (by decide) (Or.inr (by decide)) (Or.inr (by decide)) (hDs.ex u.ex9 (by decide) (by have := hR.2.2.2.2.2.2.2.2.2.2; omega))
          have hR1 := hR.lo u (by decide) (cq_low hC1)
          have hC2 := hC1.out (g := va_up f0 0 (nI (T.length + 65)).toInt64) e1 ho5
          have hR2 := hR1.out (g := va_up f0 0 (nI (T.length + 65)).toInt64) e1 ho5 (by rw [u.1]; exact hoS)
          have u1 : S0.1 = S.1 := u.1
          have u2 : S0.2.1 = S.2.1 := u.2.1
          obtain ⟨g59, k59, h59⟩ : ∃ g, kO g ∧ (ks_set S0 o (kJ 1 (va_up f0 0 (nI (T.length + 65)).toInt64))).2.2 305 = some (kB 32 g) := hR2.1.s (p := (305, 0, 32)) (by decide)
          obtain ⟨g53, k53, h53⟩ : ∃ g, kO g ∧ (ks_set S0 o (kJ 1 (va_up f0 0 (nI (T.length + 65)).toInt64))).2.2 533 = some (kB 65 g) := hR2.1.s (p := (533, 0, 65)) (by decide)
          refine ⟨⟨V, hR2.1.1⟩, (c_mr_key1 (d := 11) hR2.1.1 hR2.2.2.2.2.2.2.2.1 hc1 hc9 hR2.1.2.2.2.2.2.1 hR2.1.2.2.2.1 hR2.1.2.2.2.2.1 h59 k59 h53 k53 hf).mono (fun z S2 y => ?_)⟩
          obtain ⟨rfl, V2, p, v, cc2, mh2, mr2, h52, h532, hB2⟩ := y

          obtain ⟨g1, g2⟩ := lw_ref (K := K) (o := o) (c := c) (C0 := S) hC2 (hR2.kd p (fun x hx => hx) cc2 mh2 mr2 h52 h532 hB2) p (by decide) hr (ks_set_same _ _ _) ho5 (by show o < S0.1; omega) ⟨by show S0.1 ≤ _; omega, by show S0.2.1 ≤ _; omega⟩ r1 r2
          exact ⟨_, V2, _, rfl, p.2.1, v, g1, fun _ => va_up_self _ _ _, g2⟩
      · refine ⟨2, fun S1 => S1 = ks_one S, by decide, (hl_key_no0 (d := 16) htr h0 (t_keyF1 (d := 7) htr hSB h0 hT hx.1 (by omega)) (fun z S1 y => y.1)).mono (fun z S1 y => ⟨y.1, by obtain ⟨_, _, e⟩ := y.2; exact e⟩), ?_⟩
        rintro S1 rfl
        have hC1 := hC.one (by omega)
        have hR1 := hR.one (S1 := S) (L := []) (by omega) (cq_low hC)
        refine ⟨⟨V, hR1.1.1⟩, (r_keyF1 (d := 16) hR1.1.1 hR1.2.2.2.2.2.2.2.1 hx.1 (by omega)).mono (fun z S2 y => ?_)⟩
        obtain ⟨rfl, V2, p, v⟩ := y
        obtain ⟨g1, g2⟩ := lw_ref (K := K) (o := o) (c := c) (C0 := S) hC1 (hR1.no p (by decide)) p (fun x hx => by cases hx) hr ho ho5 (Nat.lt_succ_of_lt hoS) ⟨Nat.le_refl _, Nat.le_refl _⟩ r1 r2
        exact ⟨_, V2, f, rfl, p.2.1, v, g1, fun h => absurd h (by decide), g2⟩
    · by_cases hf : T.length + 20 ≤ 1600
      · refine ⟨0, fun S1 => ∃ (S0 : ks_S) (f0 : Nat → Int64), ks_up S S0 [16, 18, 19, 9, 8, 10, 11, 12, 6, 5, 2, 1] ∧ (cuI S0 ∧ hsO S0 ∧ (∃ ow, bfS S0 5 6 8000 ow) ∧ ∃ x y, afP (kG k) x y ∧ bfS S0 1 2 1600 (some (T ++ bytL (h160_ (mg (keyL false x y)) 33) 0 20))) ∧ S0.2.2 o = some (kJ 1 f0) ∧ S1 = ks_set S0 o (kJ 1 (va_up f0 0 (nI (T.length + 20)).toInt64)), by decide, (hl_key_ok (d := 16) htr h0 (c_jd_key2 (d := 11) h0 hT hc1 hc9 hw9 hC.2.1.1.1.1 hC.2.1.1.1.2.1 hC.1.2.1 hf) (fun z S1 y => ⟨_, f, y.1, y.2.1.at ho (by simp only [List.mem_cons, List.not_mem_nil, or_false]; omega)⟩)).mono (fun z S1 y => ?_), ?_⟩
        · obtain ⟨e, v, S0, f0, ⟨ev, u, hb⟩, y2, y3⟩ := y
          cases ev
          exact ⟨e, S0, f0, u, hb, y2, y3⟩
        · rintro S1 ⟨S0, f0, u, ⟨hcu, hh, how, xk, yk, haf, hb⟩, e1, rfl⟩
          obtain ⟨ex, ey⟩ := hm.1 k xk yk hc1 hc9 haf
          rw [ex, ey] at hb
          have hC1 := hC.up u (T1 := T ++ bytL (h160_ (mg (keyL false (pkX (rkG gpG k)) (pkY (rkG gpG k)))) 33) 0 20) (by decide) (u.at h0 (by decide)) hb (Or.inr (by decide)) (Or.inl how) (Or.inl (mcZ_cu hC.2.1.1 u hcu hh (by decide))) (Or.inr (by decide)) (Or.inr (by decide)) (Or.inr (by decide)) (Or.inr (by decide)) (by decide) (Or.inr (by decide)) (Or.inr (by decide)) (hDs.ex u.ex9 (by decide) (by have := hR.2.2.2.2.2.2.2.2.2.2; omega))
          have hR1 := hR.lo u (by decide) (cq_low hC1)
          have hC2 := hC1.out (g := va_up f0 0 (nI (T.length + 20)).toInt64) e1 ho5
          have hR2 := hR1.out (g := va_up f0 0 (nI (T.length + 20)).toInt64) e1 ho5 (by rw [u.1]; exact hoS)
          have u1 : S0.1 = S.1 := u.1
          have u2 : S0.2.1 = S.2.1 := u.2.1
          obtain ⟨g59, k59, h59⟩ : ∃ g, kO g ∧ (ks_set S0 o (kJ 1 (va_up f0 0 (nI (T.length + 20)).toInt64))).2.2 305 = some (kB 32 g) := hR2.1.s (p := (305, 0, 32)) (by decide)
          obtain ⟨g53, k53, h53⟩ : ∃ g, kO g ∧ (ks_set S0 o (kJ 1 (va_up f0 0 (nI (T.length + 20)).toInt64))).2.2 533 = some (kB 65 g) := hR2.1.s (p := (533, 0, 65)) (by decide)
          refine ⟨⟨V, hR2.1.1⟩, (c_mr_key2 (d := 11) hR2.1.1 hR2.2.2.2.2.2.2.2.1 hc1 hc9 hR2.1.2.2.2.2.2.1 hR2.1.2.2.2.1 hR2.1.2.2.2.2.1 h59 k59 h53 k53 hf).mono (fun z S2 y => ?_)⟩
          obtain ⟨rfl, V2, p, v, cc2, mh2, mr2, h52, h532, hB2⟩ := y

          obtain ⟨g1, g2⟩ := lw_ref (K := K) (o := o) (c := c) (C0 := S) hC2 (hR2.kd p (fun x hx => hx) cc2 mh2 mr2 h52 h532 hB2) p (by decide) hr (ks_set_same _ _ _) ho5 (by show o < S0.1; omega) ⟨by show S0.1 ≤ _; omega, by show S0.2.1 ≤ _; omega⟩ r1 r2
          exact ⟨_, V2, _, rfl, p.2.1, v, g1, fun _ => va_up_self _ _ _, g2⟩
      · refine ⟨2, fun S1 => S1 = ks_one S, by decide, (hl_key_no0 (d := 16) htr h0 (t_keyF2 (d := 7) htr hSB h0 hT hx.1 (by omega)) (fun z S1 y => y.1)).mono (fun z S1 y => ⟨y.1, by obtain ⟨_, _, e⟩ := y.2; exact e⟩), ?_⟩
        rintro S1 rfl
        have hC1 := hC.one (by omega)
        have hR1 := hR.one (S1 := S) (L := []) (by omega) (cq_low hC)
        refine ⟨⟨V, hR1.1.1⟩, (r_keyF2 (d := 16) hR1.1.1 hR1.2.2.2.2.2.2.2.1 hx.1 (by omega)).mono (fun z S2 y => ?_)⟩
        obtain ⟨rfl, V2, p, v⟩ := y
        obtain ⟨g1, g2⟩ := lw_ref (K := K) (o := o) (c := c) (C0 := S) hC1 (hR1.no p (by decide)) p (fun x hx => by cases hx) hr ho ho5 (Nat.lt_succ_of_lt hoS) ⟨Nat.le_refl _, Nat.le_refl _⟩ r1 r2
        exact ⟨_, V2, f, rfl, p.2.1, v, g1, fun h => absurd h (by decide), g2⟩
  · refine ⟨1, fun S1 => S1 = ks_one S, by decide, (hl_key_no1 (d := 16) htr h0 (t_key (d := 7) htr hSB h0 hx) (fun z S1 y => y.1)).mono (fun z S1 y => ⟨y.1, by obtain ⟨_, _, e⟩ := y.2; exact e⟩), ?_⟩
    rintro S1 rfl
    have hC1 := hC.one (by omega)
    have hR1 := hR.one (S1 := S) (L := []) (by omega) (cq_low hC)
    refine ⟨⟨V, hR1.1.1⟩, (r_key (d := 16) hR1.1.1 hR1.2.2.2.2.2.2.2.1 hx).mono (fun z S2 y => ?_)⟩
    obtain ⟨rfl, V2, p, v⟩ := y
    obtain ⟨g1, g2⟩ := lw_ref (K := K) (o := o) (c := c) (C0 := S) hC1 (hR1.no p (by decide)) p (fun x hx => by cases hx) hr ho ho5 (Nat.lt_succ_of_lt hoS) ⟨Nat.le_refl _, Nat.le_refl _⟩ r1 r2
    exact ⟨_, V2, f, rfl, p.2.1, v, g1, fun h => absurd h (by decide), g2⟩
set_option maxRecDepth 100000 in
set_option maxHeartbeats 3200000 in
theorem op_sign {l : Launch} {G : ks_G} {K : lwK} {o c : Nat} {S : ks_S} (htr : l.stackTraces = false) (hc : c ≤ 512) {x : Int32} {y : Int32} {q9 : Int32} (hm : lwM) (hI : lwI K o c S) : opI l G K o c yL_sign mL_sign hL_sign yX16_sign mX16_sign [.int x, .int y, .int q9] S := by
  obtain ⟨n, best, Bc, Br, C, R, t, q, dt, rs, Ds, D, T, V, F, hC, hR, hr, ⟨⟨f, ho⟩, ho5, hoS⟩, r1, r2⟩ := hI
  have h0 := hC.1.1
  have hT := hC.1.2.2.1
  have hDs := hC.2.2.2.1
  have hB9 := lw_B
  have hSB : S.1 < ks_B := hC.2.2.2.2.2.2.1.2.1
  have hn60 : n ≤ 60 := by
    obtain ⟨cc, tk, hX⟩ := hC.2.2.2.2.1
    exact hX.2.2.2
  have hS9 : S.1 + F + 50 < ks_B := by omega
  cases t with
  | zero =>
    refine ⟨2, fun S1 => S1 = ks_one S, by decide, (hl_sign_no2 (d := 16) htr h0 (t_signS (d := 7) htr hSB h0 rfl) (fun z S1 y => y.1)).mono (fun z S1 y => ⟨y.1, by obtain ⟨_, _, e⟩ := y.2; exact e⟩), ?_⟩
    rintro S1 rfl
    have hC1 := hC.one (by omega)
    have hR1 := hR.one (S1 := S) (L := []) (by omega) (cq_low hC)
    refine ⟨⟨V, hR1.1.1⟩, (r_signS (d := 16) hR1.1.1 hR1.2.2.2.2.2.2.1.2 (by decide) rfl).mono (fun z S2 y => ?_)⟩
    obtain ⟨rfl, V2, p, v⟩ := y
    obtain ⟨g1, g2⟩ := lw_ref (K := K) (o := o) (c := c) (C0 := S) hC1 (hR1.no p (by decide)) p (fun x hx => by cases hx) hr ho ho5 (Nat.lt_succ_of_lt hoS) ⟨Nat.le_refl _, Nat.le_refl _⟩ r1 r2
    exact ⟨_, V2, f, rfl, p.2.1, v, g1, fun h => absurd h (by decide), g2⟩
  | succ i =>
    have eD : D i = Ds i := hr.2.2.2.2.1 i (Nat.lt_succ_self i)
    have v94 := hR.2.2.2.2.2.2.1.2
    have hdc : 0 < i + 1 ∧ i + 1 ≤ 12 := ⟨Nat.succ_pos _, hr.2.1⟩
    obtain ⟨ow9, hw9⟩ := hC.1.2.2.2.2
    by_cases hx : ¬ x < 0 ∧ ¬ nI (Ds i).2.2.1.length ≤ x ∧ ¬ y < nI 1 ∧ ¬ q9 < 0 ∧ q9 ≤ nI 255
    · obtain ⟨j, hj9, rfl⟩ := nI_dec hx.1
      have h6i : (Ds i).2.2.1.length ≤ 6 := by rw [← eD]; exact rd_i6 hR.2.2.2.2.2.2.1.1 (Nat.lt_succ_self i)
      have hj : j < (Ds i).2.2.1.length := by
        have h2 := hx.2.1
        rw [nI_le9 (by omega) hj9] at h2
        omega
      obtain ⟨kn, hk1, hk9, rfl⟩ := nI_dec1 hx.2.2.1
      obtain ⟨ty, hty9, rfl⟩ := nI_dec hx.2.2.2.1
      have hty5 : ty ≤ 255 := (nI_le9 hty9 (by decide)).mp hx.2.2.2.2
      have hty : ty < 256 := by omega
      obtain ⟨xx, hxi⟩ : ∃ xx, (Ds i).2.2.1[j]? = some xx := ⟨_, List.getElem?_eq_getElem hj⟩
      have hxD : (D i).2.2.1[j]? = some xx := by rw [eD]; exact hxi
      have hx6 := rd_x6 hR.2.2.2.2.2.2.1.1 (Nat.lt_succ_self i) hxD
      by_cases hfit : xx.2.2.1.length ≤ 500
      · have lx : ∀ x ∈ LSg (56 + 19 * (i + 1 - 1)), (x = 1 ∨ x = 2 ∨ x = 5 ∨ x = 6 ∨ x = 8 ∨ x = 9 ∨ x = 10 ∨ x = 11 ∨ x = 16 ∨ x = 18 ∨ x = 19 ∨ x = 20 ∨ x = 21 ∨ x = 22 ∨ x = 23 ∨ x = 24 ∨ x = 25 ∨ x = 26 ∨ x = 28 ∨ x = 37 ∨ x = 38 ∨ x = 39 ∨ x = 40) ∨ (56 ≤ x ∧ x ≤ 283) := fun x hx => by
          rcases List.mem_append.mp hx with hx | hx
          · left
            simp only [List.mem_cons, List.not_mem_nil, or_false] at hx
            omega
          · have := dxL_me hx; omega
        have oN : o ∉ LSg (56 + 19 * (i + 1 - 1)) := fun hx => by have := lx _ hx; omega
        have wE : ∀ (gh : Nat → Nat) (L : List Nat), bytL gh 0 32 = L → bytL gh 0 32 = bytL (mg L) 0 32 := fun gh L h => by
          rw [h]
          have hl : L.length = 32 := by rw [← h, bytL_len]
          rw [← h]
          exact bytL_congr (fun k hk => by
            rw [Nat.zero_add]
            show gh k = (bytL gh 0 32).getD k 0
            rw [bytL_at _ _ _ hk, Nat.zero_add])
        refine ⟨0, fun S1 => ∃ (S0 : ks_S) (f0 : Nat → Int64), ks_up S S0 (LSg (56 + 19 * (i + 1 - 1))) ∧ (bfS S0 1 2 1600 (some []) ∧ dfS S0 (va_up Ds i ((Ds i).1, (Ds i).2.1, dPush (Ds i).2.2.1 j (pushL (rsW gpG kn (mg (sgD (Ds i) j ty T)) ty)), (Ds i).2.2.2)) ∧ mcZ S0 ∧ (∃ ow, bfS S0 5 6 8000 ow) ∧ tvR S0) ∧ S0.2.2 o = some (kJ 1 f0) ∧ S1 = ks_set S0 o (kJ 1 (va_up f0 0 (nI (xx.2.2.1.length + psz (rsW gpG kn (mg (sgD (Ds i) j ty T)) ty).length)).toInt64)), by decide, (hl_sign_ok (d := 16) htr h0 (c_jd_sign (d := 7) h0 hT hDs hdc hxi hfit hk1 hk9 hty hw9 hC.2.1.2.1 hC.2.1.1 hC.1.2.1 hC.2.2.2.2.2.2.1.1) (fun z S1 y => by
          obtain ⟨gh, x0, s, hg, hw, ev, u, hb⟩ := y
          exact ⟨_, f, ev, u.at ho oN⟩)).mono (fun z S1 y => ?_), ?_⟩
        · obtain ⟨e, v, S0, f0, ⟨gh, x0, s, hg, hw, ev, u, hb⟩, y2, y3⟩ := y
          have ew := hm.2.1 kn gh (mg (sgD (Ds i) j ty T)) x0 s ty hk1 hk9 hty (wE gh _ hg) hw
          rw [ew] at ev hb
          cases ev
          exact ⟨e, S0, f0, u, hb, y2, y3⟩
        · rintro S1 ⟨S0, f0, u, hb, e1, rfl⟩
          have hC1 := hC.up u (Ds1 := va_up Ds i ((Ds i).1, (Ds i).2.1, dPush (Ds i).2.2.1 j (pushL (rsW gpG kn (mg (sgD (Ds i) j ty T)) ty)), (Ds i).2.2.2)) (T1 := []) (fun x hx => by have := lx x hx; omega) (u.at h0 (fun hx => by have := lx _ hx; omega)) hb.1 (Or.inr ⟨(fun hx => by have := lx _ hx; omega), (fun hx => by have := lx _ hx; omega)⟩) (Or.inl hb.2.2.2.1) (Or.inl hb.2.2.1) (Or.inl hb.2.2.2.2) (Or.inr (fun x hx => by have := lx x hx; omega)) (Or.inr (fun hx => by have := lx _ hx; omega)) (Or.inr (fun hx => by have := lx _ hx; omega)) ⟨(fun hx => by have := lx _ hx; omega), (fun hx => by have := lx _ hx; omega)⟩ (Or.inr (fun hx => by have := lx _ hx; omega)) (Or.inr (fun hx => by have := lx _ hx; omega)) hb.2.1
          have hR1 := hR.lo u (fun x hx => by have := lx x hx; omega) (cq_low hC1)
          have hC2 := hC1.out (g := va_up f0 0 (nI (xx.2.2.1.length + psz (rsW gpG kn (mg (sgD (Ds i) j ty T)) ty).length)).toInt64) e1 ho5
          have hR2 := hR1.out (g := va_up f0 0 (nI (xx.2.2.1.length + psz (rsW gpG kn (mg (sgD (Ds i) j ty T)) ty).length)).toInt64) e1 ho5 (by rw [u.1]; exact hoS)
          have u1 : S0.1 = S.1 := u.1
          have u2 : S0.2.1 = S.2.1 := u.2.1
          refine ⟨⟨V, hR2.1.1⟩, (c_mr_sign (d := 11) hR2.1.1 hR2.2.2.2.2.2.2.1.2 hR2.2.2.2.2.2.2.1.1 hR2.2.2.2.2.2.2.2.1 hxD hfit ⟨hk1, hk9⟩ hty hR2.1.sg).mono (fun z S2 y => ?_)⟩
          obtain ⟨gh, kgh, hg, rfl, V2, p, v, hB2, rd2, sg2⟩ := y
          have ew2 : rsW gpG kn gh ty = (rsW gpG kn (mg (sgD (Ds i) j ty T)) ty) := hm.2.2 kn gh _ ty (wE gh _ (by rw [← eD]; exact hg))
          obtain ⟨g1, g2⟩ := lw_ref (K := K) (o := o) (c := c) (C0 := S) hC2 (hR2.sn p sg2 rd2 hB2) p (fun x hx => by
            have z1 : ∀ x ∈ LSa ++ (LSb ++ [542, 543]), 290 ≤ x ∧ x < 565 := by decide
            rcases List.mem_append.mp hx with hx | hx
            · exact z1 x (List.mem_append_left _ hx)
            · rcases List.mem_append.mp hx with hx | hx
              · exact z1 x (List.mem_append_right _ (List.mem_append_left _ hx))
              · rcases List.mem_append.mp hx with hx | hx
                · exact z1 x (List.mem_append_right _ (List.mem_append_right _ hx))
                · have := mem_LDw.mp hx; omega) ⟨hr.1, hr.2.1, hr.2.2.1, hr.2.2.2.1, fun j hj => by
            by_cases ej : j = i
            · rw [ej, va_up_self, va_up_self, eD, ew2]
            · rw [va_up_ne _ _ ej, va_up_ne _ _ ej]; exact hr.2.2.2.2.1 j hj, hr.2.2.2.2.2⟩ (ks_set_same _ _ _) ho5 (by show o < S0.1; omega) ⟨by show S0.1 ≤ _; omega, by show S0.2.1 ≤ _; omega⟩ r1 r2
          exact ⟨_, V2, _, rfl, p.2.1, v, g1, fun _ => by rw [ew2]; exact va_up_self _ _ _, g2⟩
      · refine ⟨3, fun S1 => S1 = ks_one S, by decide, (hl_sign_no0 (d := 16) htr h0 (t_signF (d := 7) htr hSB h0 hDs hdc hxi hx.2.2.1 hty5 hx6 hfit) (fun z S1 y => y.1)).mono (fun z S1 y => ⟨y.1, by obtain ⟨_, _, e⟩ := y.2; exact e⟩), ?_⟩
        rintro S1 rfl
        have hC1 := hC.one (by omega)
        have hR1 := hR.one (S1 := S) (L := []) (by omega) (cq_low hC)
        refine ⟨⟨V, hR1.1.1⟩, (r_signF (d := 16) hR1.1.1 hR1.2.2.2.2.2.2.1.2 hR1.2.2.2.2.2.2.1.1 hxD hx.2.2.1 hty5 hfit).mono (fun z S2 y => ?_)⟩
        obtain ⟨rfl, V2, p, v⟩ := y
        obtain ⟨g1, g2⟩ := lw_ref (K := K) (o := o) (c := c) (C0 := S) hC1 (hR1.no p (by decide)) p (fun x hx => by cases hx) hr ho ho5 (Nat.lt_succ_of_lt hoS) ⟨Nat.le_refl _, Nat.le_refl _⟩ r1 r2
        exact ⟨_, V2, f, rfl, p.2.1, v, g1, fun h => absurd h (by decide), g2⟩
    · refine ⟨1, fun S1 => S1 = ks_one S, by decide, (hl_sign_no1 (d := 16) htr h0 (t_sign (d := 7) htr hSB h0 hDs hdc hx) (fun z S1 y => y.1)).mono (fun z S1 y => ⟨y.1, by obtain ⟨_, _, e⟩ := y.2; exact e⟩), ?_⟩
      rintro S1 rfl
      have hC1 := hC.one (by omega)
      have hR1 := hR.one (S1 := S) (L := []) (by omega) (cq_low hC)
      refine ⟨⟨V, hR1.1.1⟩, (r_sign (d := 16) hR1.1.1 hR1.2.2.2.2.2.2.1.2 hR1.2.2.2.2.2.2.1.1 (by rw [eD]; exact hx)).mono (fun z S2 y => ?_)⟩
      obtain ⟨rfl, V2, p, v⟩ := y
      obtain ⟨g1, g2⟩ := lw_ref (K := K) (o := o) (c := c) (C0 := S) hC1 (hR1.no p (by decide)) p (fun x hx => by cases hx) hr ho ho5 (Nat.lt_succ_of_lt hoS) ⟨Nat.le_refl _, Nat.le_refl _⟩ r1 r2
      exact ⟨_, V2, f, rfl, p.2.1, v, g1, fun h => absurd h (by decide), g2⟩
set_option maxRecDepth 100000 in
theorem op_coins {l : Launch} {G : ks_G} {K : lwK} {o c : Nat} {S : ks_S} (hKC : lwKC K) (hI : lwI K o c S) : ∃ v : Int64, (∃ fs, S.2.2 0 = some (.inr (14, fs))) ∧ ks_P l G yX11_coins mX11_coins 17 [.ref 0] S (fun z S' => z = some (.long v) ∧ S' = S) ∧ (∃ V, S.2.2 290 = some (rfE V)) ∧ ks_P l G yX16_coins mX16_coins 17 [.ref 290] S (fun z S2 => z = some (.long v) ∧ lwI K o (c + 1) S2) := by
  obtain ⟨n, best, Bc, Br, C, R, t, q, dt, rs, Ds, D, T, V, F, hC, hR, hr, ⟨⟨f, ho⟩, ho5, hoS⟩, r1, r2⟩ := hI
  obtain ⟨cc, tk, hX⟩ := hC.2.2.2.2.1
  obtain ⟨r, L, hL1, hL2, hL3, -⟩ := hKC n best Bc Br C hr.2.2.2.2.2
  obtain ⟨f342, e342, hf342⟩ := hR.2.2.2.2.1.1
  refine ⟨lN (cnS Bc L L.length), ⟨_, hC.1.1⟩, c_jd_coins (d := 14) hC.1.1 hX hr.1 hL1 hL2, ⟨V, hR.1.1⟩, (c_mr_coins (d := 13) hR.1.1 hR.2.2.1 e342 hR.2.2.2.2.1.2.1 hf342 (by have := hR.2.2.2.2.1.2.2.1; omega) hR.2.2.2.2.1.2.2.2).mono (fun z S2 y => ?_)⟩
  obtain ⟨rfl, V2, p⟩ := y
  obtain ⟨g1, g2⟩ := lw_ref (K := K) (o := o) (c := c) (C0 := S) hC (hR.no p (by decide)) p (fun x hx => by cases hx) hr ho ho5 hoS ⟨Nat.le_succ _, by omega⟩ r1 r2
  exact ⟨by rw [hL3], g2⟩
