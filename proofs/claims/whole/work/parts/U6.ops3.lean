/-! THE LAW: calls of both sides: push, open, input -/
theorem i32_nle {x y : Int32} : ¬ y ≤ x ↔ x < y := by
  rw [Int32.le_iff_toInt_le, Int32.lt_iff_toInt_lt]
  omega
theorem i32_m1 {x : Int32} (h1 : ¬ x < -1) (h2 : x ≠ -1) : ¬ x < 0 := by
  rw [Int32.lt_iff_toInt_lt] at h1 ⊢
  have e1 : (-1 : Int32).toInt = -1 := by decide
  have e0 : (0 : Int32).toInt = 0 := by decide
  have h3 : x.toInt ≠ -1 := fun h => h2 (Int32.toInt_inj.mp (h.trans e1.symm))
  rw [e1] at h1
  rw [e0]
  omega
theorem i32_m2 {x : Int32} (h1 : ¬ x < -2) (h2 : x ≠ -1) (h3 : x ≠ -2) : ¬ x < 0 := by
  rw [Int32.lt_iff_toInt_lt] at h1 ⊢
  have e1 : (-1 : Int32).toInt = -1 := by decide
  have e2 : (-2 : Int32).toInt = -2 := by decide
  have e0 : (0 : Int32).toInt = 0 := by decide
  have h4 : x.toInt ≠ -1 := fun h => h2 (Int32.toInt_inj.mp (h.trans e1.symm))
  have h5 : x.toInt ≠ -2 := fun h => h3 (Int32.toInt_inj.mp (h.trans e2.symm))
  rw [e2] at h1
  rw [e0]
  omega
theorem i32_n2 {n : Nat} (h : n < 2 ^ 31) : ¬ nI n ≤ -2 := by
  rw [Int32.le_iff_toInt_le, nI_tI9 h]
  have e2 : (-2 : Int32).toInt = -2 := by decide
  rw [e2]
  omega
theorem i32_l2 {x : Int32} (h : x < -2) : x < 0 ∧ x ≠ -1 ∧ x ≠ -2 := by
  rw [Int32.lt_iff_toInt_lt] at h
  have e1 : (-1 : Int32).toInt = -1 := by decide
  have e2 : (-2 : Int32).toInt = -2 := by decide
  have e0 : (0 : Int32).toInt = 0 := by decide
  rw [e2] at h
  refine ⟨by rw [Int32.lt_iff_toInt_lt, e0]; omega, fun q => ?_, fun q => ?_⟩
  · rw [q, e1] at h; omega
  · rw [q, e2] at h; omega
theorem rd_x6 {S : ks_S} {t i j : Nat} {D : Nat → dTx} {x : dIn} (h : rdS S t D) (hi : i < t) (hx : (D i).2.2.1[j]? = some x) : x.2.2.1.length ≤ 600 := by
  obtain ⟨-, ver, loc, inp, out, ids, ix, seq, iln, val, oln, sc, so, -, hA⟩ := h
  obtain ⟨e, h1, h2, h3, -⟩ := hA i hi
  rw [e] at hx
  change ((List.range (inp i)).map (fun j => rdI ids ix sc iln seq (6 * i + j)))[j]? = some x at hx
  obtain ⟨z, hz, rfl⟩ := List.mem_map.mp (List.mem_of_getElem? hx)
  show (bytL (sc (6 * i + z)) 0 (iln (6 * i + z))).length ≤ 600
  rw [bytL_len]
  exact h3 z (List.mem_range.mp hz)
theorem rd_zero {S : ks_S} {t : Nat} {D : Nat → dTx} (h : rdS S t D) : rdS S 0 D := by
  obtain ⟨-, ver, loc, inp, out, ids, ix, seq, iln, val, oln, sc, so, U, -⟩ := h
  exact ⟨Nat.zero_le _, ver, loc, inp, out, ids, ix, seq, iln, val, oln, sc, so, U, fun i hi => absurd hi (Nat.not_lt_zero _)⟩
/-- a call of both sides without an answer -/
def opV (l : Launch) (G : ks_G) (K : lwK) (o c : Nat) (yL : MethodName) (mL : ks_M) (hL : List (Nat × Nat × Nat × Nat)) (yR : MethodName) (mR : ks_M) (As : List Value) (S : ks_S) : Prop := ∃ (k : Nat) (Q : ks_S → Prop), k < 4 ∧ kl_P l G yL mL hL 17 (.ref 0 :: As) S (fun z S1 => z = some (.int (nI k)) ∧ Q S1) ∧ ∀ S1, Q S1 → (∃ V, S1.2.2 290 = some (rfE V)) ∧ ks_P l G yR mR 17 (.ref 290 :: As) S1 (fun z S2 => z = none ∧ ∃ V2, S2.2.2 290 = some (rfE V2) ∧ V2 111 = .int (nI k) ∧ lwI K o (c + 1) S2)
set_option maxRecDepth 100000 in
set_option maxHeartbeats 800000 in
theorem op_push {l : Launch} {G : ks_G} {K : lwK} {o c : Nat} {S : ks_S} (htr : l.stackTraces = false) (hc : c ≤ 512) {x : Int32} (hI : lwI K o c S) : opI l G K o c yL_push mL_push hL_push yX16_push_ mX16_push_ [.int x] S := by
  obtain ⟨n, best, Bc, Br, C, R, t, q, dt, rs, Ds, D, T, V, F, hC, hR, hr, ⟨⟨f, ho⟩, ho5, hoS⟩, r1, r2⟩ := hI
  have h0 := hC.1.1
  have hT := hC.1.2.2.1
  have hDs := hC.2.2.2.1
  have hB9 := lw_B
  have hSB : S.1 < ks_B := hC.2.2.2.2.2.2.1.2.1
  have hn60 : n ≤ 60 := by
    obtain ⟨cc, tk, hX⟩ := hC.2.2.2.2.1
    exact hX.2.2.2
  have hS9 : S.1 + F + 50 < ks_B := by omega
  cases t with
  | zero =>
    refine ⟨2, fun S1 => S1 = ks_one S, by decide, (hl_push_no2 (d := 16) htr h0 (t_pushS (d := 7) htr hSB h0 rfl) (fun z S1 y => y.1)).mono (fun z S1 y => ⟨y.1, by obtain ⟨_, _, e⟩ := y.2; exact e⟩), ?_⟩
    rintro S1 rfl
    have hC1 := hC.one (by omega)
    have hR1 := hR.one (S1 := S) (L := []) (by omega) (cq_low hC)
    refine ⟨⟨V, hR1.1.1⟩, (r_pushS (d := 16) hR1.1.1 hR1.2.2.2.2.2.2.1.2 (by decide) rfl).mono (fun z S2 y => ?_)⟩
    obtain ⟨rfl, V2, p, v⟩ := y
    obtain ⟨g1, g2⟩ := lw_ref (K := K) (o := o) (c := c) (C0 := S) hC1 (hR1.no p (by decide)) p (fun x hx => by cases hx) hr ho ho5 (Nat.lt_succ_of_lt hoS) ⟨Nat.le_refl _, Nat.le_refl _⟩ r1 r2
    exact ⟨_, V2, f, rfl, p.2.1, v, g1, fun h => absurd h (by decide), g2⟩
  | succ i =>
    have eD : D i = Ds i := hr.2.2.2.2.1 i (Nat.lt_succ_self i)
    have v94 := hR.2.2.2.2.2.2.1.2
    have hdc : 0 < i + 1 ∧ i + 1 ≤ 12 := ⟨Nat.succ_pos _, hr.2.1⟩
    by_cases hx : ¬ x < 0 ∧ x < nI (Ds i).2.2.1.length
    · obtain ⟨j, hj9, rfl⟩ := nI_dec hx.1
      have h6i : (Ds i).2.2.1.length ≤ 6 := by rw [← eD]; exact rd_i6 hR.2.2.2.2.2.2.1.1 (Nat.lt_succ_self i)
      have hj : j < (Ds i).2.2.1.length := (nI_lt9 hj9 (by omega)).mp hx.2
      obtain ⟨xx, hxi⟩ : ∃ xx, (Ds i).2.2.1[j]? = some xx := ⟨_, List.getElem?_eq_getElem hj⟩
      have hxD : (D i).2.2.1[j]? = some xx := by rw [eD]; exact hxi
      have hx6 := rd_x6 hR.2.2.2.2.2.2.1.1 (Nat.lt_succ_self i) hxD
      by_cases hfit : xx.2.2.1.length + psz T.length ≤ 600
      · have lx : ∀ x ∈ (1 :: 2 :: dxL (56 + 19 * (i + 1 - 1)) : List Nat), (x = 1 ∨ x = 2) ∨ (56 ≤ x ∧ x ≤ 283) := fun x hx => by
          simp only [List.mem_cons] at hx
          rcases hx with h | h | h
          · omega
          · omega
          · have := dxL_me h; omega
        have oN : o ∉ (1 :: 2 :: dxL (56 + 19 * (i + 1 - 1)) : List Nat) := fun hx => by have := lx _ hx; omega
        refine ⟨0, fun S1 => ∃ (S0 : ks_S) (f0 : Nat → Int64), ks_up S S0 (1 :: 2 :: dxL (56 + 19 * (i + 1 - 1))) ∧ (bfS S0 1 2 1600 (some []) ∧ dfS S0 (va_up Ds i ((Ds i).1, (Ds i).2.1, dPush (Ds i).2.2.1 j (pushL T), (Ds i).2.2.2))) ∧ S0.2.2 o = some (kJ 1 f0) ∧ S1 = ks_set S0 o (kJ 1 (va_up f0 0 (nI (xx.2.2.1.length + psz T.length)).toInt64)), by decide, (hl_push_ok (d := 16) htr h0 (c_jd_push (d := 13) h0 hT hDs hdc hxi hfit) (fun z S1 y => ⟨_, f, y.1, y.2.1.at ho oN⟩)).mono (fun z S1 y => ?_), ?_⟩
        · obtain ⟨e, v, S0, f0, ⟨ev, u, hb⟩, y2, y3⟩ := y
          cases ev
          exact ⟨e, S0, f0, u, hb, y2, y3⟩
        · rintro S1 ⟨S0, f0, u, hb, e1, rfl⟩

          have hC1 := hC.up u (Ds1 := va_up Ds i ((Ds i).1, (Ds i).2.1, dPush (Ds i).2.2.1 j (pushL T), (Ds i).2.2.2)) (T1 := []) (fun x hx => by have := lx x hx; omega) (u.at h0 (fun hx => by have := lx _ hx; omega)) hb.1 (Or.inr ⟨(fun hx => by have := lx _ hx; omega), (fun hx => by have := lx _ hx; omega)⟩) (Or.inr ⟨(fun hx => by have := lx _ hx; omega), (fun hx => by have := lx _ hx; omega)⟩) (Or.inr ⟨Or.inr (fun x hx => by have := lx x hx; omega), (fun x hx => by have := lx x hx; omega)⟩) (Or.inr (fun x hx => by have := lx x hx; omega)) (Or.inr (fun x hx => by have := lx x hx; omega)) (Or.inr (fun hx => by have := lx _ hx; omega)) (Or.inr (fun hx => by have := lx _ hx; omega)) ⟨(fun hx => by have := lx _ hx; omega), (fun hx => by have := lx _ hx; omega)⟩ (Or.inr (fun hx => by have := lx _ hx; omega)) (Or.inr (fun hx => by have := lx _ hx; omega)) hb.2
          have hR1 := hR.lo u (fun x hx => by have := lx x hx; omega) (cq_low hC1)
          have hC2 := hC1.out (g := va_up f0 0 (nI (xx.2.2.1.length + psz T.length)).toInt64) e1 ho5
          have hR2 := hR1.out (g := va_up f0 0 (nI (xx.2.2.1.length + psz T.length)).toInt64) e1 ho5 (by rw [u.1]; exact hoS)
          have u1 : S0.1 = S.1 := u.1
          have u2 : S0.2.1 = S.2.1 := u.2.1
          refine ⟨⟨V, hR2.1.1⟩, (c_mr_push (d := 16) hR2.1.1 hR2.2.2.2.2.2.2.1.2 hR2.2.2.2.2.2.2.1.1 hR2.2.2.2.2.2.2.2.1 hxD hfit).mono (fun z S2 y => ?_)⟩
          obtain ⟨rfl, V2, p, v, hB2, rd2⟩ := y

          obtain ⟨g1, g2⟩ := lw_ref (K := K) (o := o) (c := c) (C0 := S) hC2 (hR2.ob p (fun x hx => Or.inr hx) (by decide) ⟨rd2, (p.2.2 94 (by decide)).trans hR2.2.2.2.2.2.2.1.2⟩ hB2 (hR2.pq p (by decide)) (hR2.p5 p (by decide))) p (fun x hx => by have := mem_LDw.mp hx; omega) ⟨hr.1, hr.2.1, hr.2.2.1, hr.2.2.2.1, fun j hj => by
            by_cases ej : j = i
            · rw [ej, va_up_self, va_up_self, eD]
            · rw [va_up_ne _ _ ej, va_up_ne _ _ ej]; exact hr.2.2.2.2.1 j hj, hr.2.2.2.2.2⟩ (ks_set_same _ _ _) ho5 (by show o < S0.1; omega) ⟨by show S0.1 ≤ _; omega, by show S0.2.1 ≤ _; omega⟩ r1 r2
          exact ⟨_, V2, _, rfl, p.2.1, v, g1, fun _ => va_up_self _ _ _, g2⟩
      · refine ⟨3, fun S1 => S1 = ks_one S, by decide, (hl_push_no0 (d := 16) htr h0 (t_pushF (d := 7) htr hSB h0 hT hDs hdc hxi hx6 hfit) (fun z S1 y => y.1)).mono (fun z S1 y => ⟨y.1, by obtain ⟨_, _, e⟩ := y.2; exact e⟩), ?_⟩
        rintro S1 rfl
        have hC1 := hC.one (by omega)
        have hR1 := hR.one (S1 := S) (L := []) (by omega) (cq_low hC)
        refine ⟨⟨V, hR1.1.1⟩, (r_pushF (d := 16) hR1.1.1 hR1.2.2.2.2.2.2.1.2 hR1.2.2.2.2.2.2.1.1 hR1.2.2.2.2.2.2.2.1 hxD hfit).mono (fun z S2 y => ?_)⟩
        obtain ⟨rfl, V2, p, v⟩ := y
        obtain ⟨g1, g2⟩ := lw_ref (K := K) (o := o) (c := c) (C0 := S) hC1 (hR1.no p (by decide)) p (fun x hx => by cases hx) hr ho ho5 (Nat.lt_succ_of_lt hoS) ⟨Nat.le_refl _, Nat.le_refl _⟩ r1 r2
        exact ⟨_, V2, f, rfl, p.2.1, v, g1, fun h => absurd h (by decide), g2⟩
    · refine ⟨1, fun S1 => S1 = ks_one S, by decide, (hl_push_no1 (d := 16) htr h0 (t_push (d := 7) htr hSB h0 hT hDs hdc hx) (fun z S1 y => y.1)).mono (fun z S1 y => ⟨y.1, by obtain ⟨_, _, e⟩ := y.2; exact e⟩), ?_⟩
      rintro S1 rfl
      have hC1 := hC.one (by omega)
      have hR1 := hR.one (S1 := S) (L := []) (by omega) (cq_low hC)
      refine ⟨⟨V, hR1.1.1⟩, (r_push (d := 16) hR1.1.1 hR1.2.2.2.2.2.2.1.2 hR1.2.2.2.2.2.2.1.1 hR1.2.2.2.2.2.2.2.1 (by rw [eD, i32_nle]; exact hx)).mono (fun z S2 y => ?_)⟩
      obtain ⟨rfl, V2, p, v⟩ := y
      obtain ⟨g1, g2⟩ := lw_ref (K := K) (o := o) (c := c) (C0 := S) hC1 (hR1.no p (by decide)) p (fun x hx => by cases hx) hr ho ho5 (Nat.lt_succ_of_lt hoS) ⟨Nat.le_refl _, Nat.le_refl _⟩ r1 r2
      exact ⟨_, V2, f, rfl, p.2.1, v, g1, fun h => absurd h (by decide), g2⟩
set_option maxRecDepth 100000 in
set_option maxHeartbeats 800000 in
theorem op_open {l : Launch} {G : ks_G} {K : lwK} {o c : Nat} {S : ks_S} (htr : l.stackTraces = false) (hc : c ≤ 512) {x : Int32} {v : Int64} (hI : lwI K o c S) : opV l G K o c yL_open mL_open hL_open yX16_open mX16_open [.int x, .long v] S := by
  obtain ⟨n, best, Bc, Br, C, R, t, q, dt, rs, Ds, D, T, V, F, hC, hR, hr, ⟨⟨f, ho⟩, ho5, hoS⟩, r1, r2⟩ := hI
  have h0 := hC.1.1
  have hT := hC.1.2.2.1
  have hDs := hC.2.2.2.1
  have hB9 := lw_B
  have hSB : S.1 < ks_B := hC.2.2.2.2.2.2.1.2.1
  have hn60 : n ≤ 60 := by
    obtain ⟨cc, tk, hX⟩ := hC.2.2.2.2.1
    exact hX.2.2.2
  have hS9 : S.1 + F + 50 < ks_B := by omega
  obtain ⟨cc, tk, hX⟩ := hC.2.2.2.2.1
  by_cases hx : ¬ x < -1 ∧ ¬ nI n ≤ x ∧ unL v = false
  · by_cases e : x = -1
    · subst e
      refine ⟨0, fun S1 => S1 = ks_set S 0 (jdO 0 best v (nI rs)), by decide, (hl_open_ok (d := 16) htr h0 (c_jd_openB (d := 15) h0 hX hx.2.2) (fun z S1 y => y.1)).mono (fun z S1 y => ⟨y.1, y.2.2⟩), ?_⟩
      rintro S1 rfl
      have u : ks_up S (ks_set S 0 (jdO 0 best v (nI rs))) [0] := ks_up_set _ _ (by decide)
      have hC1 := hC.up u (dc1 := 0) (dp1 := best) (dt1 := v) (rs1 := rs) (by decide) (ks_set_same _ _ _) (hT.ag (u.2.2 _ (by decide)) (u.2.2 _ (by decide))) (Or.inr (by decide)) (Or.inr (by decide)) (Or.inr ⟨Or.inr (by decide), by decide⟩) (Or.inr (by decide)) (Or.inr (by decide)) (Or.inr (by decide)) (Or.inr (by decide)) (by decide) (Or.inr (by decide)) (Or.inr (by decide)) (hDs.ex u.ex9 (by decide) (by have := hR.2.2.2.2.2.2.2.2.2.2; omega))
      have hR1 := hR.lo u (by decide) (cq_low hC1)
      refine ⟨⟨V, hR1.1.1⟩, (c_mr_openB (d := 16) hR1.1.1 hR1.2.2.2.1.1 hR1.2.2.2.1.2.1 (by omega) hx.2.2).mono (fun z S2 y => ?_)⟩
      obtain ⟨rfl, V2, p, vv, w92, w93, w94⟩ := y
      have hR2 := hR1.ob p (fun x hx => by cases hx) (by decide) ⟨rd_zero (hR1.2.2.2.2.2.2.1.1.up p.1 (by decide)), w94⟩ (hR1.tp p (fun hx => by cases hx) (by decide)) ⟨w92, hr.1, w93⟩ (hR1.p5 p (by decide))
      obtain ⟨g1, g2⟩ := lw_ref (K := K) (o := o) (c := c) (C0 := S) hC1 hR2 p (fun x hx => by cases hx) ⟨hr.1, Nat.zero_le _, hr.1, hr.2.2.2.1, fun i hi => absurd hi (Nat.not_lt_zero _), hr.2.2.2.2.2⟩ (u.at ho (by simp only [List.mem_cons, List.not_mem_nil, or_false]; omega)) ho5 hoS ⟨Nat.le_succ _, by show S.2.1 ≤ _; omega⟩ r1 r2
      exact ⟨rfl, V2, p.2.1, vv, g2⟩
    · obtain ⟨k, hk9, rfl⟩ := nI_dec (i32_m1 hx.1 e)
      have hk : k < n := by
        have h2 := hx.2.1
        rw [nI_le9 (by omega) hk9] at h2
        omega
      refine ⟨0, fun S1 => S1 = ks_set S 0 (jdO 0 k v (nI rs)), by decide, (hl_open_ok (d := 16) htr h0 (c_jd_open (d := 15) h0 hX hk hx.2.2) (fun z S1 y => y.1)).mono (fun z S1 y => ⟨y.1, y.2.2⟩), ?_⟩
      rintro S1 rfl
      have u : ks_up S (ks_set S 0 (jdO 0 k v (nI rs))) [0] := ks_up_set _ _ (by decide)
      have hC1 := hC.up u (dc1 := 0) (dp1 := k) (dt1 := v) (rs1 := rs) (by decide) (ks_set_same _ _ _) (hT.ag (u.2.2 _ (by decide)) (u.2.2 _ (by decide))) (Or.inr (by decide)) (Or.inr (by decide)) (Or.inr ⟨Or.inr (by decide), by decide⟩) (Or.inr (by decide)) (Or.inr (by decide)) (Or.inr (by decide)) (Or.inr (by decide)) (by decide) (Or.inr (by decide)) (Or.inr (by decide)) (hDs.ex u.ex9 (by decide) (by have := hR.2.2.2.2.2.2.2.2.2.2; omega))
      have hR1 := hR.lo u (by decide) (cq_low hC1)
      refine ⟨⟨V, hR1.1.1⟩, (c_mr_open (d := 16) hR1.1.1 hR1.2.2.2.1.1 hR1.2.2.2.1.2.1 (by omega) hk hx.2.2).mono (fun z S2 y => ?_)⟩
      obtain ⟨rfl, V2, p, vv, w92, w93, w94⟩ := y
      have hR2 := hR1.ob p (fun x hx => by cases hx) (by decide) ⟨rd_zero (hR1.2.2.2.2.2.2.1.1.up p.1 (by decide)), w94⟩ (hR1.tp p (fun hx => by cases hx) (by decide)) ⟨w92, hk, w93⟩ (hR1.p5 p (by decide))
      obtain ⟨g1, g2⟩ := lw_ref (K := K) (o := o) (c := c) (C0 := S) hC1 hR2 p (fun x hx => by cases hx) ⟨hr.1, Nat.zero_le _, hk, hr.2.2.2.1, fun i hi => absurd hi (Nat.not_lt_zero _), hr.2.2.2.2.2⟩ (u.at ho (by simp only [List.mem_cons, List.not_mem_nil, or_false]; omega)) ho5 hoS ⟨Nat.le_succ _, by show S.2.1 ≤ _; omega⟩ r1 r2
      exact ⟨rfl, V2, p.2.1, vv, g2⟩
  · refine ⟨1, fun S1 => S1 = ks_one S, by decide, (hl_open_no1 (d := 16) htr h0 (t_open (d := 7) htr hSB h0 hX hx) (fun z S1 y => y.1)).mono (fun z S1 y => ⟨y.1, by obtain ⟨_, _, e⟩ := y.2; exact e⟩), ?_⟩
    rintro S1 rfl
    have hC1 := hC.one (by omega)
    have hR1 := hR.one (S1 := S) (L := []) (by omega) (cq_low hC)
    refine ⟨⟨V, hR1.1.1⟩, (r_open (d := 16) hR1.1.1 hR1.2.2.2.1.1 hR1.2.2.2.1.2.1 (by omega) hx).mono (fun z S2 y => ?_)⟩
    obtain ⟨rfl, V2, p, vv⟩ := y
    obtain ⟨g1, g2⟩ := lw_ref (K := K) (o := o) (c := c) (C0 := S) hC1 (hR1.no p (by decide)) p (fun x hx => by cases hx) hr ho ho5 (Nat.lt_succ_of_lt hoS) ⟨Nat.le_refl _, Nat.le_refl _⟩ r1 r2
    exact ⟨rfl, V2, p.2.1, vv, g2⟩
set_option maxRecDepth 100000 in
theorem inp_q {l : Launch} {G : ks_G} {S : ks_S} {V : Nat → Value} {F n best : Nat} {B : Nat → Bk} {C R : List Nat} {t : Nat} {D : Nat → dTx} {T : List Nat} {q : Nat} {dt : Int64} {rs : Nat} {x y ix : Int32} {q9 : Int64} (hR : rqS S V F n best B C R t D T q dt rs) (h12 : t ≤ 12) (hn : n ≤ 60) (hQ : unL q9 = true) : ks_P l G yX16_input_ mX16_input_ 17 [.ref 290, .int x, .int y, .int ix, .long q9] S (fun z S' => z = some (.int (nI 0)) ∧ ∃ V', pbK [] [111] S S' V V' ∧ V' 111 = .int (nI 1)) := by
  have hO := hR.1.1
  have v47 := hR.2.2.2.1.1
  have rb := hR.2.2.1
  have v94 := hR.2.2.2.2.2.2.1.2
  have tp := hR.2.2.2.2.2.2.2.1
  by_cases e1 : x = -1
  · subst e1
    exact r_inputZQ (d := 16) hO v47 rb tp v94 h12 hQ
  · by_cases e2 : x = -2
    · subst e2
      by_cases hy : y < 0
      · exact r_inputND (d := 16) hO v47 rb tp v94 h12 hy
      · obtain ⟨tt, ht9, rfl⟩ := nI_dec hy
        by_cases ht : tt < t
        · exact r_inputDQ (d := 16) hO v47 rb tp v94 h12 ht hQ
        · exact r_inputD (d := 16) hO v47 rb tp v94 h12 ht9 ht
    · by_cases hx : x < 0
      · exact r_inputL (d := 16) hO v47 rb tp v94 h12 hx e1 e2
      · by_cases hy : y < 0 ∨ nI n ≤ x
        · exact r_inputNB (d := 16) hO v47 rb tp v94 h12 hx hy
        · obtain ⟨xx, hx9, rfl⟩ := nI_dec hx
          obtain ⟨tt, ht9, rfl⟩ := nI_dec (fun h => hy (Or.inl h))
          have hxn : xx < n := by
            have h2 : ¬ nI n ≤ nI xx := fun h => hy (Or.inr h)
            rw [nI_le9 (by omega) hx9] at h2
            omega
          by_cases ht : tt < mg (bkM (B xx)) 80
          · exact r_inputBQ (d := 16) hO v47 rb tp v94 h12 hxn ht hQ
          · exact r_inputT (d := 16) hO v47 rb tp v94 h12 hxn ht9 ht
theorem inp_n {l : Launch} {G : ks_G} {S : ks_S} {V : Nat → Value} {F n best : Nat} {B : Nat → Bk} {C R : List Nat} {t : Nat} {D : Nat → dTx} {T : List Nat} {q : Nat} {dt : Int64} {rs : Nat} {x y ix : Int32} {q9 : Int64} (hR : rqS S V F n best B C R t D T q dt rs) (h12 : t ≤ 12) (hn : n ≤ 60) (hx2 : ¬ x < -2) (e1 : x ≠ -1) (hyn : y < 0 ∨ nI n ≤ x) : ks_P l G yX16_input_ mX16_input_ 17 [.ref 290, .int x, .int y, .int ix, .long q9] S (fun z S' => z = some (.int (nI 0)) ∧ ∃ V', pbK [] [111] S S' V V' ∧ V' 111 = .int (nI 1)) := by
  have hO := hR.1.1
  have v47 := hR.2.2.2.1.1
  have rb := hR.2.2.1
  have v94 := hR.2.2.2.2.2.2.1.2
  have tp := hR.2.2.2.2.2.2.2.1
  by_cases e2 : x = -2
  · subst e2
    have hy : y < 0 := by
      rcases hyn with h | h
      · exact h
      · exact absurd h (i32_n2 (by omega))
    exact r_inputND (d := 16) hO v47 rb tp v94 h12 hy
  · exact r_inputNB (d := 16) hO v47 rb tp v94 h12 (i32_m2 hx2 e1 e2) hyn
set_option maxRecDepth 100000 in
set_option maxHeartbeats 3200000 in
theorem op_input {l : Launch} {G : ks_G} {K : lwK} {o c : Nat} {S : ks_S} (htr : l.stackTraces = false) (hc : c ≤ 512) {x : Int32} {y : Int32} {ix : Int32} {q9 : Int64} (hI : lwI K o c S) : opI l G K o c yL_input mL_input hL_input yX16_input_ mX16_input_ [.int x, .int y, .int ix, .long q9] S := by
  obtain ⟨n, best, Bc, Br, C, R, t, q, dt, rs, Ds, D, T, V, F, hC, hR, hr, ⟨⟨f, ho⟩, ho5, hoS⟩, r1, r2⟩ := hI
  have h0 := hC.1.1
  have hT := hC.1.2.2.1
  have hDs := hC.2.2.2.1
  have hB9 := lw_B
  have hSB : S.1 < ks_B := hC.2.2.2.2.2.2.1.2.1
  have hn60 : n ≤ 60 := by
    obtain ⟨cc, tk, hX⟩ := hC.2.2.2.2.1
    exact hX.2.2.2
  have hS9 : S.1 + F + 50 < ks_B := by omega
  obtain ⟨cc, tk, hX⟩ := hC.2.2.2.2.1
  by_cases hQ : unL q9 = true
  · refine ⟨1, fun S1 => S1 = ks_one S, by decide, (hl_input_no1 (d := 16) htr h0 (t_inputQ (d := 7) htr hSB h0 hQ) (fun z S1 y => y.1)).mono (fun z S1 y => ⟨y.1, by obtain ⟨_, _, e⟩ := y.2; exact e⟩), ?_⟩
    rintro S1 rfl
    have hC1 := hC.one (by omega)
    have hR1 := hR.one (S1 := S) (L := []) (by omega) (cq_low hC)
    refine ⟨⟨V, hR1.1.1⟩, (inp_q hR1 hr.2.1 hn60 hQ).mono (fun z S2 y => ?_)⟩
    obtain ⟨rfl, V2, p, v⟩ := y
    obtain ⟨g1, g2⟩ := lw_ref (K := K) (o := o) (c := c) (C0 := S) hC1 (hR1.no p (by decide)) p (fun x hx => by cases hx) hr ho ho5 (Nat.lt_succ_of_lt hoS) ⟨Nat.le_refl _, Nat.le_refl _⟩ r1 r2
    exact ⟨_, V2, f, rfl, p.2.1, v, g1, fun h => absurd h (by decide), g2⟩
  have hq : unL q9 = false := by
    cases e : unL q9 with
    | true => exact absurd e hQ
    | false => rfl
  clear hQ
  by_cases hx2 : x < -2
  · refine ⟨1, fun S1 => S1 = ks_one S, by decide, (hl_input_no1 (d := 16) htr h0 (t_inputL (d := 7) htr hSB h0 hq hx2) (fun z S1 y => y.1)).mono (fun z S1 y => ⟨y.1, by obtain ⟨_, _, e⟩ := y.2; exact e⟩), ?_⟩
    rintro S1 rfl
    have hC1 := hC.one (by omega)
    have hR1 := hR.one (S1 := S) (L := []) (by omega) (cq_low hC)
    refine ⟨⟨V, hR1.1.1⟩, (r_inputL (d := 16) hR1.1.1 hR1.2.2.2.1.1 hR1.2.2.1 hR1.2.2.2.2.2.2.2.1 hR1.2.2.2.2.2.2.1.2 hr.2.1 (i32_l2 hx2).1 (i32_l2 hx2).2.1 (i32_l2 hx2).2.2).mono (fun z S2 y => ?_)⟩
    obtain ⟨rfl, V2, p, v⟩ := y
    obtain ⟨g1, g2⟩ := lw_ref (K := K) (o := o) (c := c) (C0 := S) hC1 (hR1.no p (by decide)) p (fun x hx => by cases hx) hr ho ho5 (Nat.lt_succ_of_lt hoS) ⟨Nat.le_refl _, Nat.le_refl _⟩ r1 r2
    exact ⟨_, V2, f, rfl, p.2.1, v, g1, fun h => absurd h (by decide), g2⟩
  by_cases e1 : x = -1
  · subst e1
    cases t with
    | zero =>
      refine ⟨2, fun S1 => S1 = ks_one S, by decide, (hl_input_no2 (d := 16) htr h0 (t_inputSZ (d := 7) htr hSB h0 hq rfl) (fun z S1 y => y.1)).mono (fun z S1 y => ⟨y.1, by obtain ⟨_, _, e⟩ := y.2; exact e⟩), ?_⟩
      rintro S1 rfl
      have hC1 := hC.one (by omega)
      have hR1 := hR.one (S1 := S) (L := []) (by omega) (cq_low hC)
      refine ⟨⟨V, hR1.1.1⟩, (r_inputSZ (d := 16) hR1.1.1 hR1.2.2.2.1.1 hR1.2.2.1 hR1.2.2.2.2.2.2.2.1 hR1.2.2.2.2.2.2.1.2 (by decide) hq rfl).mono (fun z S2 y => ?_)⟩
      obtain ⟨rfl, V2, p, v⟩ := y
      obtain ⟨g1, g2⟩ := lw_ref (K := K) (o := o) (c := c) (C0 := S) hC1 (hR1.no p (by decide)) p (fun x hx => by cases hx) hr ho ho5 (Nat.lt_succ_of_lt hoS) ⟨Nat.le_refl _, Nat.le_refl _⟩ r1 r2
      exact ⟨_, V2, f, rfl, p.2.1, v, g1, fun h => absurd h (by decide), g2⟩
    | succ i =>
      have eD : D i = Ds i := hr.2.2.2.2.1 i (Nat.lt_succ_self i)
      have v94 := hR.2.2.2.2.2.2.1.2
      have hdc : 0 < i + 1 ∧ i + 1 ≤ 12 := ⟨Nat.succ_pos _, hr.2.1⟩
      by_cases hf : (Ds i).2.2.1.length ≠ 6 ∧ T.length ≤ 600
      · have ho6 : (Ds i).2.2.1.length < 6 := by
          have h6 : (Ds i).2.2.1.length ≤ 6 := by rw [← eD]; exact rd_i6 hR.2.2.2.2.2.2.1.1 (Nat.lt_succ_self i)
          omega
        have lx : ∀ x ∈ (1 :: 2 :: dxL (56 + 19 * (i + 1 - 1)) : List Nat), (x = 1 ∨ x = 2) ∨ (56 ≤ x ∧ x ≤ 283) := fun x hx => by
          simp only [List.mem_cons] at hx
          rcases hx with h | h | h
          · omega
          · omega
          · have := dxL_me h; omega
        have oN : o ∉ (1 :: 2 :: dxL (56 + 19 * (i + 1 - 1)) : List Nat) := fun hx => by have := lx _ hx; omega
        refine ⟨0, fun S1 => ∃ (S0 : ks_S) (f0 : Nat → Int64), ks_up S S0 (1 :: 2 :: dxL (56 + 19 * (i + 1 - 1))) ∧ (bfS S0 1 2 1600 (some []) ∧ dfS S0 (va_up Ds i ((Ds i).1, (Ds i).2.1, (Ds i).2.2.1 ++ [(bytL (fun _ => 0) 0 32, (-1), T, q9)], (Ds i).2.2.2))) ∧ S0.2.2 o = some (kJ 1 f0) ∧ S1 = ks_set S0 o (kJ 1 (va_up f0 0 (nI ((Ds i).2.2.1.length + 1)).toInt64)), by decide, (hl_input_ok (d := 16) htr h0 (c_jd_inputZ (d := 10) h0 hT hX hDs hdc hq hf.2 ho6 hC.2.2.1.2.2.2.2.2.2.2) (fun z S1 y => ⟨_, f, y.1, y.2.1.at ho oN⟩)).mono (fun z S1 y => ?_), ?_⟩
        · obtain ⟨e, v, S0, f0, ⟨ev, u, hb⟩, y2, y3⟩ := y
          cases ev
          exact ⟨e, S0, f0, u, hb, y2, y3⟩
        · rintro S1 ⟨S0, f0, u, hb, e1, rfl⟩

          have hC1 := hC.up u (Ds1 := va_up Ds i ((Ds i).1, (Ds i).2.1, (Ds i).2.2.1 ++ [(bytL (fun _ => 0) 0 32, (-1), T, q9)], (Ds i).2.2.2)) (T1 := []) (fun x hx => by have := lx x hx; omega) (u.at h0 (fun hx => by have := lx _ hx; omega)) hb.1 (Or.inr ⟨(fun hx => by have := lx _ hx; omega), (fun hx => by have := lx _ hx; omega)⟩) (Or.inr ⟨(fun hx => by have := lx _ hx; omega), (fun hx => by have := lx _ hx; omega)⟩) (Or.inr ⟨Or.inr (fun x hx => by have := lx x hx; omega), (fun x hx => by have := lx x hx; omega)⟩) (Or.inr (fun x hx => by have := lx x hx; omega)) (Or.inr (fun x hx => by have := lx x hx; omega)) (Or.inr (fun hx => by have := lx _ hx; omega)) (Or.inr (fun hx => by have := lx _ hx; omega)) ⟨(fun hx => by have := lx _ hx; omega), (fun hx => by have := lx _ hx; omega)⟩ (Or.inr (fun hx => by have := lx _ hx; omega)) (Or.inr (fun hx => by have := lx _ hx; omega)) hb.2
          have hR1 := hR.lo u (fun x hx => by have := lx x hx; omega) (cq_low hC1)
          have hC2 := hC1.out (g := va_up f0 0 (nI ((Ds i).2.2.1.length + 1)).toInt64) e1 ho5
          have hR2 := hR1.out (g := va_up f0 0 (nI ((Ds i).2.2.1.length + 1)).toInt64) e1 ho5 (by rw [u.1]; exact hoS)
          have u1 : S0.1 = S.1 := u.1
          have u2 : S0.2.1 = S.2.1 := u.2.1
          refine ⟨⟨V, hR2.1.1⟩, (c_mr_inputZ (d := 16) hR2.1.1 hR2.2.2.2.1.1 hR2.2.2.1 hR2.2.2.2.2.2.2.2.1 hR2.2.2.2.2.2.2.1.2 hR2.2.2.2.2.2.2.1.1 hq (by rw [eD]; exact ho6) hf.2).mono (fun z S2 y => ?_)⟩
          obtain ⟨rfl, V2, p, v, hB2, rd2⟩ := y

          obtain ⟨g1, g2⟩ := lw_ref (K := K) (o := o) (c := c) (C0 := S) hC2 (hR2.ob p (fun x hx => Or.inr hx) (by decide) ⟨rd2, (p.2.2 94 (by decide)).trans hR2.2.2.2.2.2.2.1.2⟩ hB2 (hR2.pq p (by decide)) (hR2.p5 p (by decide))) p (fun x hx => by have := mem_LDw.mp hx; omega) ⟨hr.1, hr.2.1, hr.2.2.1, hr.2.2.2.1, fun j hj => by
            show va_up D i _ j = va_up Ds i _ j
            by_cases ej : j = i
            · rw [ej, va_up_self, va_up_self, eD]
            · rw [va_up_ne _ _ ej, va_up_ne _ _ ej]; exact hr.2.2.2.2.1 j hj, hr.2.2.2.2.2⟩ (ks_set_same _ _ _) ho5 (by show o < S0.1; omega) ⟨by show S0.1 ≤ _; omega, by show S0.2.1 ≤ _; omega⟩ r1 r2
          exact ⟨_, V2, _, rfl, p.2.1, v, g1, fun _ => by rw [eD]; exact va_up_self _ _ _, g2⟩
      · refine ⟨3, fun S1 => S1 = ks_one S, by decide, (hl_input_no0 (d := 16) htr h0 (t_inputFZ (d := 7) htr hSB h0 hT hDs hq hdc hf) (fun z S1 y => y.1)).mono (fun z S1 y => ⟨y.1, by obtain ⟨_, _, e⟩ := y.2; exact e⟩), ?_⟩
        rintro S1 rfl
        have hC1 := hC.one (by omega)
        have hR1 := hR.one (S1 := S) (L := []) (by omega) (cq_low hC)
        refine ⟨⟨V, hR1.1.1⟩, (r_inputFZ (d := 16) hR1.1.1 hR1.2.2.2.1.1 hR1.2.2.1 hR1.2.2.2.2.2.2.2.1 hR1.2.2.2.2.2.2.1.2 hR1.2.2.2.2.2.2.1.1 hq (by rw [eD]; exact hf)).mono (fun z S2 y => ?_)⟩
        obtain ⟨rfl, V2, p, v⟩ := y
        obtain ⟨g1, g2⟩ := lw_ref (K := K) (o := o) (c := c) (C0 := S) hC1 (hR1.no p (by decide)) p (fun x hx => by cases hx) hr ho ho5 (Nat.lt_succ_of_lt hoS) ⟨Nat.le_refl _, Nat.le_refl _⟩ r1 r2
        exact ⟨_, V2, f, rfl, p.2.1, v, g1, fun h => absurd h (by decide), g2⟩
  by_cases hyn : y < 0 ∨ nI n ≤ x
  · refine ⟨1, fun S1 => S1 = ks_one S, by decide, (hl_input_no1 (d := 16) htr h0 (t_inputN (d := 7) htr hSB h0 hX hx2 e1 hyn hq) (fun z S1 y => y.1)).mono (fun z S1 y => ⟨y.1, by obtain ⟨_, _, e⟩ := y.2; exact e⟩), ?_⟩
    rintro S1 rfl
    have hC1 := hC.one (by omega)
    have hR1 := hR.one (S1 := S) (L := []) (by omega) (cq_low hC)
    refine ⟨⟨V, hR1.1.1⟩, (inp_n hR1 hr.2.1 hn60 hx2 e1 hyn).mono (fun z S2 y => ?_)⟩
    obtain ⟨rfl, V2, p, v⟩ := y
    obtain ⟨g1, g2⟩ := lw_ref (K := K) (o := o) (c := c) (C0 := S) hC1 (hR1.no p (by decide)) p (fun x hx => by cases hx) hr ho ho5 (Nat.lt_succ_of_lt hoS) ⟨Nat.le_refl _, Nat.le_refl _⟩ r1 r2
    exact ⟨_, V2, f, rfl, p.2.1, v, g1, fun h => absurd h (by decide), g2⟩
  obtain ⟨tt, ht9, rfl⟩ := nI_dec (fun h => hyn (Or.inl h))
  by_cases e2 : x = -2
  · subst e2
    by_cases ht : tt < t
    · cases t with
      | zero =>
        omega
      | succ i =>
        have eD : D i = Ds i := hr.2.2.2.2.1 i (Nat.lt_succ_self i)
        have v94 := hR.2.2.2.2.2.2.1.2
        have hdc : 0 < i + 1 ∧ i + 1 ≤ 12 := ⟨Nat.succ_pos _, hr.2.1⟩
        obtain ⟨ow9, hw9⟩ := hC.1.2.2.2.2
        obtain ⟨g54, k54, h54⟩ := hC.2.2.1.2.2.2.2.2.2.1
        by_cases hf : (Ds i).2.2.1.length ≠ 6 ∧ T.length ≤ 600
        · have ho6 : (Ds i).2.2.1.length < 6 := by
            have h6 : (Ds i).2.2.1.length ≤ 6 := by rw [← eD]; exact rd_i6 hR.2.2.2.2.2.2.1.1 (Nat.lt_succ_self i)
            omega
          have lx : ∀ x ∈ (1 :: 2 :: 5 :: 6 :: 9 :: 8 :: 10 :: 11 :: 12 :: 54 :: dxL (56 + 19 * (i + 1 - 1)) : List Nat), (x = 1 ∨ x = 2 ∨ x = 5 ∨ x = 6 ∨ x = 9 ∨ x = 8 ∨ x = 10 ∨ x = 11 ∨ x = 12 ∨ x = 54) ∨ (56 ≤ x ∧ x ≤ 283) := fun x hx => by
            simp only [List.mem_cons] at hx
            rcases hx with h | h | h | h | h | h | h | h | h | h | h
            · omega
            · omega
            · omega
            · omega
            · omega
            · omega
            · omega
            · omega
            · omega
            · omega
            · have := dxL_me h; omega
          have oN : o ∉ (1 :: 2 :: 5 :: 6 :: 9 :: 8 :: 10 :: 11 :: 12 :: 54 :: dxL (56 + 19 * (i + 1 - 1)) : List Nat) := fun hx => by have := lx _ hx; omega
          refine ⟨0, fun S1 => ∃ (S0 : ks_S) (f0 : Nat → Int64), ks_up S S0 (1 :: 2 :: 5 :: 6 :: 9 :: 8 :: 10 :: 11 :: 12 :: 54 :: dxL (56 + 19 * (i + 1 - 1))) ∧ (bfS S0 1 2 1600 (some []) ∧ dfS S0 (va_up Ds i ((Ds i).1, (Ds i).2.1, (Ds i).2.2.1 ++ [(bytL (txI (Ds tt)) 0 32, ix, T, q9)], (Ds i).2.2.2)) ∧ hsO S0 ∧ (∃ ow, bfS S0 5 6 8000 ow) ∧ ∃ g, kO g ∧ S0.2.2 54 = some (kB 32 g)) ∧ S0.2.2 o = some (kJ 1 f0) ∧ S1 = ks_set S0 o (kJ 1 (va_up f0 0 (nI ((Ds i).2.2.1.length + 1)).toInt64)), by decide, (hl_input_ok (d := 16) htr h0 (c_jd_inputD (d := 10) h0 hT hX hDs hdc hq hf.2 ho6 ht hw9 hC.2.1.1.1.2.1 hC.1.2.1 h54 k54) (fun z S1 y => ⟨_, f, y.1, y.2.1.at ho oN⟩)).mono (fun z S1 y => ?_), ?_⟩
          · obtain ⟨e, v, S0, f0, ⟨ev, u, hb⟩, y2, y3⟩ := y
            cases ev
            exact ⟨e, S0, f0, u, hb, y2, y3⟩
          · rintro S1 ⟨S0, f0, u, hb, e1, rfl⟩

            have hC1 := hC.up u (Ds1 := va_up Ds i ((Ds i).1, (Ds i).2.1, (Ds i).2.2.1 ++ [(bytL (txI (Ds tt)) 0 32, ix, T, q9)], (Ds i).2.2.2)) (T1 := []) (fun x hx => by have := lx x hx; omega) (u.at h0 (fun hx => by have := lx _ hx; omega)) hb.1 (Or.inr ⟨(fun hx => by have := lx _ hx; omega), (fun hx => by have := lx _ hx; omega)⟩) (Or.inl hb.2.2.2.1) (Or.inr ⟨Or.inl hb.2.2.1, (fun x hx => by have := lx x hx; omega)⟩) (Or.inr (fun x hx => by have := lx x hx; omega)) (Or.inr (fun x hx => by have := lx x hx; omega)) (Or.inr (fun hx => by have := lx _ hx; omega)) (Or.inr (fun hx => by have := lx _ hx; omega)) ⟨(fun hx => by have := lx _ hx; omega), (fun hx => by have := lx _ hx; omega)⟩ (Or.inr (fun hx => by have := lx _ hx; omega)) (Or.inl hb.2.2.2.2) hb.2.1
            have hR1 := hR.lo u (fun x hx => by have := lx x hx; omega) (cq_low hC1)
            have hC2 := hC1.out (g := va_up f0 0 (nI ((Ds i).2.2.1.length + 1)).toInt64) e1 ho5
            have hR2 := hR1.out (g := va_up f0 0 (nI ((Ds i).2.2.1.length + 1)).toInt64) e1 ho5 (by rw [u.1]; exact hoS)
            have u1 : S0.1 = S.1 := u.1
            have u2 : S0.2.1 = S.2.1 := u.2.1
            obtain ⟨g529, k529, h529⟩ : ∃ g, kO g ∧ (ks_set S0 o (kJ 1 (va_up f0 0 (nI ((Ds i).2.2.1.length + 1)).toInt64))).2.2 529 = some (kB 131072 g) := hR2.1.s (p := (529, 0, 131072)) (by decide)
            obtain ⟨g305, k305, h305⟩ : ∃ g, kO g ∧ (ks_set S0 o (kJ 1 (va_up f0 0 (nI ((Ds i).2.2.1.length + 1)).toInt64))).2.2 305 = some (kB 32 g) := hR2.1.s (p := (305, 0, 32)) (by decide)
            obtain ⟨g530, k530, h530⟩ : ∃ g, kO g ∧ (ks_set S0 o (kJ 1 (va_up f0 0 (nI ((Ds i).2.2.1.length + 1)).toInt64))).2.2 530 = some (kB 384 g) := hR2.1.s (p := (530, 0, 384)) (by decide)
            refine ⟨⟨V, hR2.1.1⟩, (c_mr_inputE (d := 12) hR2.1.1 hR2.2.2.2.1.1 hR2.2.2.1 hR2.2.2.2.2.2.2.2.1 hR2.2.2.2.2.2.2.1.2 hR2.2.2.2.2.2.2.1.1 ht h529 k529 hR2.1.2.2.2.1 h305 k305 h530 k530 hq (by rw [eD]; exact ho6) hf.2).mono (fun z S2 y => ?_)⟩
            obtain ⟨rfl, V2, p, v, hA2, hB2, rd2⟩ := y

            obtain ⟨g1, g2⟩ := lw_ref (K := K) (o := o) (c := c) (C0 := S) hC2 (hR2.ie p hA2 rd2 hB2) p (fun x hx => by
              rcases List.mem_append.mp hx with hx | hx
              · have : ∀ x ∈ LDk, 290 ≤ x ∧ x < 565 := by decide
                exact this x hx
              · have := mem_LDw.mp hx; omega) ⟨hr.1, hr.2.1, hr.2.2.1, hr.2.2.2.1, fun j hj => by
              show va_up D i _ j = va_up Ds i _ j
              by_cases ej : j = i
              · rw [ej, va_up_self, va_up_self, eD, hr.2.2.2.2.1 tt ht]
              · rw [va_up_ne _ _ ej, va_up_ne _ _ ej]; exact hr.2.2.2.2.1 j hj, hr.2.2.2.2.2⟩ (ks_set_same _ _ _) ho5 (by show o < S0.1; omega) ⟨by show S0.1 ≤ _; omega, by show S0.2.1 ≤ _; omega⟩ r1 r2
            exact ⟨_, V2, _, rfl, p.2.1, v, g1, fun _ => by rw [eD]; exact va_up_self _ _ _, g2⟩
        · refine ⟨3, fun S1 => S1 = ks_one S, by decide, (hl_input_no0 (d := 16) htr h0 (t_inputFD (d := 7) htr hSB h0 hT hDs hX ht9 ht hq hdc hf) (fun z S1 y => y.1)).mono (fun z S1 y => ⟨y.1, by obtain ⟨_, _, e⟩ := y.2; exact e⟩), ?_⟩
          rintro S1 rfl
          have hC1 := hC.one (by omega)
          have hR1 := hR.one (S1 := S) (L := []) (by omega) (cq_low hC)
          refine ⟨⟨V, hR1.1.1⟩, (r_inputFD (d := 16) hR1.1.1 hR1.2.2.2.1.1 hR1.2.2.1 hR1.2.2.2.2.2.2.2.1 hR1.2.2.2.2.2.2.1.2 hR1.2.2.2.2.2.2.1.1 ht hq (by rw [eD]; exact hf)).mono (fun z S2 y => ?_)⟩
          obtain ⟨rfl, V2, p, v⟩ := y
          obtain ⟨g1, g2⟩ := lw_ref (K := K) (o := o) (c := c) (C0 := S) hC1 (hR1.no p (by decide)) p (fun x hx => by cases hx) hr ho ho5 (Nat.lt_succ_of_lt hoS) ⟨Nat.le_refl _, Nat.le_refl _⟩ r1 r2
          exact ⟨_, V2, f, rfl, p.2.1, v, g1, fun h => absurd h (by decide), g2⟩
    · refine ⟨1, fun S1 => S1 = ks_one S, by decide, (hl_input_no1 (d := 16) htr h0 (t_inputD (d := 7) htr hSB h0 hX ht9 hr.2.1 ht hq) (fun z S1 y => y.1)).mono (fun z S1 y => ⟨y.1, by obtain ⟨_, _, e⟩ := y.2; exact e⟩), ?_⟩
      rintro S1 rfl
      have hC1 := hC.one (by omega)
      have hR1 := hR.one (S1 := S) (L := []) (by omega) (cq_low hC)
      refine ⟨⟨V, hR1.1.1⟩, (r_inputD (d := 16) hR1.1.1 hR1.2.2.2.1.1 hR1.2.2.1 hR1.2.2.2.2.2.2.2.1 hR1.2.2.2.2.2.2.1.2 hr.2.1 ht9 ht).mono (fun z S2 y => ?_)⟩
      obtain ⟨rfl, V2, p, v⟩ := y
      obtain ⟨g1, g2⟩ := lw_ref (K := K) (o := o) (c := c) (C0 := S) hC1 (hR1.no p (by decide)) p (fun x hx => by cases hx) hr ho ho5 (Nat.lt_succ_of_lt hoS) ⟨Nat.le_refl _, Nat.le_refl _⟩ r1 r2
      exact ⟨_, V2, f, rfl, p.2.1, v, g1, fun h => absurd h (by decide), g2⟩
  obtain ⟨xx, hx9, rfl⟩ := nI_dec (i32_m2 hx2 e1 e2)
  have hxn : xx < n := by
    have h2 : ¬ nI n ≤ nI xx := fun h => hyn (Or.inr h)
    rw [nI_le9 (by omega) hx9] at h2
    omega
  have eM : bkM (Br xx) = bkM (Bc xx) := (hr.2.2.2.1 xx).1
  have hbx : 284 ≤ bkN (Bc xx) := by
    obtain ⟨sl, -, N1, -⟩ := hC.2.2.2.2.2.1
    exact (N1 xx hxn).1.1
  by_cases ht : tt < mg (bkM (Bc xx)) 80
  · cases t with
    | zero =>
      refine ⟨2, fun S1 => S1 = ks_one S, by decide, (hl_input_no2 (d := 16) htr h0 (t_inputSB (d := 7) htr hSB h0 hX hxn ht9 ht hn60 hq rfl) (fun z S1 y => y.1)).mono (fun z S1 y => ⟨y.1, by obtain ⟨_, _, e⟩ := y.2; exact e⟩), ?_⟩
      rintro S1 rfl
      have hC1 := hC.one (by omega)
      have hR1 := hR.one (S1 := S) (L := []) (by omega) (cq_low hC)
      refine ⟨⟨V, hR1.1.1⟩, (r_inputSB (d := 16) hR1.1.1 hR1.2.2.2.1.1 hR1.2.2.1 hR1.2.2.2.2.2.2.2.1 hR1.2.2.2.2.2.2.1.2 (by decide) hxn (by rw [eM]; exact ht) hq rfl).mono (fun z S2 y => ?_)⟩
      obtain ⟨rfl, V2, p, v⟩ := y
      obtain ⟨g1, g2⟩ := lw_ref (K := K) (o := o) (c := c) (C0 := S) hC1 (hR1.no p (by decide)) p (fun x hx => by cases hx) hr ho ho5 (Nat.lt_succ_of_lt hoS) ⟨Nat.le_refl _, Nat.le_refl _⟩ r1 r2
      exact ⟨_, V2, f, rfl, p.2.1, v, g1, fun h => absurd h (by decide), g2⟩
    | succ i =>
      have eD : D i = Ds i := hr.2.2.2.2.1 i (Nat.lt_succ_self i)
      have v94 := hR.2.2.2.2.2.2.1.2
      have hdc : 0 < i + 1 ∧ i + 1 ≤ 12 := ⟨Nat.succ_pos _, hr.2.1⟩
      by_cases hf : (Ds i).2.2.1.length ≠ 6 ∧ T.length ≤ 600
      · have ho6 : (Ds i).2.2.1.length < 6 := by
          have h6 : (Ds i).2.2.1.length ≤ 6 := by rw [← eD]; exact rd_i6 hR.2.2.2.2.2.2.1.1 (Nat.lt_succ_self i)
          omega
        have lx : ∀ x ∈ (1 :: 2 :: dxL (56 + 19 * (i + 1 - 1)) : List Nat), (x = 1 ∨ x = 2) ∨ (56 ≤ x ∧ x ≤ 283) := fun x hx => by
          simp only [List.mem_cons] at hx
          rcases hx with h | h | h
          · omega
          · omega
          · have := dxL_me h; omega
        have oN : o ∉ (1 :: 2 :: dxL (56 + 19 * (i + 1 - 1)) : List Nat) := fun hx => by have := lx _ hx; omega
        refine ⟨0, fun S1 => ∃ (S0 : ks_S) (f0 : Nat → Int64), ks_up S S0 (1 :: 2 :: dxL (56 + 19 * (i + 1 - 1))) ∧ (bfS S0 1 2 1600 (some []) ∧ dfS S0 (va_up Ds i ((Ds i).1, (Ds i).2.1, (Ds i).2.2.1 ++ [(bytL (idB (bkM (Bc xx)) tt) 0 32, ix, T, q9)], (Ds i).2.2.2))) ∧ S0.2.2 o = some (kJ 1 f0) ∧ S1 = ks_set S0 o (kJ 1 (va_up f0 0 (nI ((Ds i).2.2.1.length + 1)).toInt64)), by decide, (hl_input_ok (d := 16) htr h0 (c_jd_inputB (d := 10) h0 hT hX hDs hdc hq hf.2 ho6 hxn ht hbx) (fun z S1 y => ⟨_, f, y.1, y.2.1.at ho oN⟩)).mono (fun z S1 y => ?_), ?_⟩
        · obtain ⟨e, v, S0, f0, ⟨ev, u, hb⟩, y2, y3⟩ := y
          cases ev
          exact ⟨e, S0, f0, u, hb, y2, y3⟩
        · rintro S1 ⟨S0, f0, u, hb, e1, rfl⟩

          have hC1 := hC.up u (Ds1 := va_up Ds i ((Ds i).1, (Ds i).2.1, (Ds i).2.2.1 ++ [(bytL (idB (bkM (Bc xx)) tt) 0 32, ix, T, q9)], (Ds i).2.2.2)) (T1 := []) (fun x hx => by have := lx x hx; omega) (u.at h0 (fun hx => by have := lx _ hx; omega)) hb.1 (Or.inr ⟨(fun hx => by have := lx _ hx; omega), (fun hx => by have := lx _ hx; omega)⟩) (Or.inr ⟨(fun hx => by have := lx _ hx; omega), (fun hx => by have := lx _ hx; omega)⟩) (Or.inr ⟨Or.inr (fun x hx => by have := lx x hx; omega), (fun x hx => by have := lx x hx; omega)⟩) (Or.inr (fun x hx => by have := lx x hx; omega)) (Or.inr (fun x hx => by have := lx x hx; omega)) (Or.inr (fun hx => by have := lx _ hx; omega)) (Or.inr (fun hx => by have := lx _ hx; omega)) ⟨(fun hx => by have := lx _ hx; omega), (fun hx => by have := lx _ hx; omega)⟩ (Or.inr (fun hx => by have := lx _ hx; omega)) (Or.inr (fun hx => by have := lx _ hx; omega)) hb.2
          have hR1 := hR.lo u (fun x hx => by have := lx x hx; omega) (cq_low hC1)
          have hC2 := hC1.out (g := va_up f0 0 (nI ((Ds i).2.2.1.length + 1)).toInt64) e1 ho5
          have hR2 := hR1.out (g := va_up f0 0 (nI ((Ds i).2.2.1.length + 1)).toInt64) e1 ho5 (by rw [u.1]; exact hoS)
          have u1 : S0.1 = S.1 := u.1
          have u2 : S0.2.1 = S.2.1 := u.2.1
          refine ⟨⟨V, hR2.1.1⟩, (c_mr_inputB (d := 16) hR2.1.1 hR2.2.2.2.1.1 hR2.2.2.1 hR2.2.2.2.2.2.2.2.1 hR2.2.2.2.2.2.2.1.2 hR2.2.2.2.2.2.2.1.1 hxn (by rw [eM]; exact ht) hq (by rw [eD]; exact ho6) hf.2).mono (fun z S2 y => ?_)⟩
          obtain ⟨rfl, V2, p, v, hB2, rd2⟩ := y

          obtain ⟨g1, g2⟩ := lw_ref (K := K) (o := o) (c := c) (C0 := S) hC2 (hR2.ob p (fun x hx => Or.inr hx) (by decide) ⟨rd2, (p.2.2 94 (by decide)).trans hR2.2.2.2.2.2.2.1.2⟩ hB2 (hR2.pq p (by decide)) (hR2.p5 p (by decide))) p (fun x hx => by have := mem_LDw.mp hx; omega) ⟨hr.1, hr.2.1, hr.2.2.1, hr.2.2.2.1, fun j hj => by
            show va_up D i _ j = va_up Ds i _ j
            by_cases ej : j = i
            · rw [ej, va_up_self, va_up_self, eD, eM]
            · rw [va_up_ne _ _ ej, va_up_ne _ _ ej]; exact hr.2.2.2.2.1 j hj, hr.2.2.2.2.2⟩ (ks_set_same _ _ _) ho5 (by show o < S0.1; omega) ⟨by show S0.1 ≤ _; omega, by show S0.2.1 ≤ _; omega⟩ r1 r2
          exact ⟨_, V2, _, rfl, p.2.1, v, g1, fun _ => by rw [eD]; exact va_up_self _ _ _, g2⟩
      · refine ⟨3, fun S1 => S1 = ks_one S, by decide, (hl_input_no0 (d := 16) htr h0 (t_inputFB (d := 7) htr hSB h0 hT hDs hX hxn ht9 ht hn60 hq hdc hf) (fun z S1 y => y.1)).mono (fun z S1 y => ⟨y.1, by obtain ⟨_, _, e⟩ := y.2; exact e⟩), ?_⟩
        rintro S1 rfl
        have hC1 := hC.one (by omega)
        have hR1 := hR.one (S1 := S) (L := []) (by omega) (cq_low hC)
        refine ⟨⟨V, hR1.1.1⟩, (r_inputFB (d := 16) hR1.1.1 hR1.2.2.2.1.1 hR1.2.2.1 hR1.2.2.2.2.2.2.2.1 hR1.2.2.2.2.2.2.1.2 hR1.2.2.2.2.2.2.1.1 hxn (by rw [eM]; exact ht) hq (by rw [eD]; exact hf)).mono (fun z S2 y => ?_)⟩
        obtain ⟨rfl, V2, p, v⟩ := y
        obtain ⟨g1, g2⟩ := lw_ref (K := K) (o := o) (c := c) (C0 := S) hC1 (hR1.no p (by decide)) p (fun x hx => by cases hx) hr ho ho5 (Nat.lt_succ_of_lt hoS) ⟨Nat.le_refl _, Nat.le_refl _⟩ r1 r2
        exact ⟨_, V2, f, rfl, p.2.1, v, g1, fun h => absurd h (by decide), g2⟩
  · refine ⟨1, fun S1 => S1 = ks_one S, by decide, (hl_input_no1 (d := 16) htr h0 (t_inputT (d := 7) htr hSB h0 hX hxn ht9 ht hn60 hq) (fun z S1 y => y.1)).mono (fun z S1 y => ⟨y.1, by obtain ⟨_, _, e⟩ := y.2; exact e⟩), ?_⟩
    rintro S1 rfl
    have hC1 := hC.one (by omega)
    have hR1 := hR.one (S1 := S) (L := []) (by omega) (cq_low hC)
    refine ⟨⟨V, hR1.1.1⟩, (r_inputT (d := 16) hR1.1.1 hR1.2.2.2.1.1 hR1.2.2.1 hR1.2.2.2.2.2.2.2.1 hR1.2.2.2.2.2.2.1.2 hr.2.1 hxn ht9 (by rw [eM]; exact ht)).mono (fun z S2 y => ?_)⟩
    obtain ⟨rfl, V2, p, v⟩ := y
    obtain ⟨g1, g2⟩ := lw_ref (K := K) (o := o) (c := c) (C0 := S) hC1 (hR1.no p (by decide)) p (fun x hx => by cases hx) hr ho ho5 (Nat.lt_succ_of_lt hoS) ⟨Nat.le_refl _, Nat.le_refl _⟩ r1 r2
    exact ⟨_, V2, f, rfl, p.2.1, v, g1, fun h => absurd h (by decide), g2⟩
