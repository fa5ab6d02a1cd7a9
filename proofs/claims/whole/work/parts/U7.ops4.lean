/-! THE LAW: calls of both sides: block, seal, coin -/
/-- what the law asks of the blocks -/
def lwKB (K : lwK) : Prop := ∀ n best Bc Br C, K n best Bc Br C → chW n Bc ∧ chV n Bc ∧ rbH n Br ∧ (∀ i, i < n → btB (bkM (Bc i)) < 2 ^ 31) ∧ ∀ i, i < n → dueB Bc i < 2 ^ 32
def lwKC (K : lwK) : Prop := ∀ n best Bc Br C, K n best Bc Br C → ∃ r L, bkC (Bc best) = some (r, L) ∧ (∀ i, i < L.length → cnR n Bc (L.getD i 0)) ∧ cnS Bc L L.length = rmS Br C C.length ∧ ∀ (x t xn : Nat) (ix : Int32), x < n → t < mg (bkM (Bc x)) 80 → ix = nI xn → xn < 2 ^ 32 → (if plD (fun i => cnIs Bc ix (idB (bkM (Bc x)) t) (L.getD i 0)) L.length 0 = 0 then (-1 : Int64) else lN (cnV Bc (L.getD (plD (fun i => cnIs Bc ix (idB (bkM (Bc x)) t) (L.getD i 0)) L.length 0 - 1) 0))) = (if plR Br xn (idB (bkM (Br x)) t) C = 0 then (-1 : Int64) else lN (rmV Br (C.getD (plR Br xn (idB (bkM (Br x)) t) C - 1) 0)))
theorem chW.eq {n : Nat} {Bc Br : Nat → Bk} (h : chW n Bc) (e : lwR n Bc Br) : chW n Br := ⟨by rw [(e 0).2.1]; exact h.1, fun i h1 h2 => by rw [(e i).2.1]; exact h.2 i h1 h2⟩
theorem stL_e {n : Nat} {Bc Br : Nat → Bk} (e : lwR n Bc Br) (x : Nat) : ∀ c b, stL Br x c b = stL Bc x c b
  | 0, b => rfl
  | c + 1, b => by
    show (if x < b then stL Br x c (bkP (Br b) - 1) else b) = (if x < b then stL Bc x c (bkP (Bc b) - 1) else b)
    rw [(e b).2.1, stL_e e x c]
theorem mdL_e {n : Nat} {Bc Br : Nat → Bk} (e : lwR n Bc Br) : ∀ u k c f, mdL Br u k c f = mdL Bc u k c f
  | 0, k, c, f => rfl
  | u + 1, k, c, f => by
    show (if k = 0 then (c, f) else mdL Br u (bkP (Br (k - 1))) (c + 1) (insF f c (tmB (bkM (Br (k - 1)))))) = (if k = 0 then (c, f) else mdL Bc u (bkP (Bc (k - 1))) (c + 1) (insF f c (tmB (bkM (Bc (k - 1))))))
    rw [(e (k - 1)).2.1, (e (k - 1)).1, mdL_e e u]
theorem mdF_e {n : Nat} {Bc Br : Nat → Bk} (e : lwR n Bc Br) (x : Nat) : mdF Br x = mdF Bc x := by
  unfold mdF
  rw [mdL_e e]
theorem upN_e {n : Nat} {Bc Br : Nat → Bk} (e : lwR n Bc Br) : ∀ c b, upN Br c b = upN Bc c b
  | 0, b => rfl
  | c + 1, b => by
    show (if bkP (Br b) = 0 then b else upN Br c (bkP (Br b) - 1)) = (if bkP (Bc b) = 0 then b else upN Bc c (bkP (Bc b) - 1))
    rw [(e b).2.1, upN_e e c]
theorem dueB_e {n : Nat} {Bc Br : Nat → Bk} (e : lwR n Bc Br) (x : Nat) : dueB Br x = dueB Bc x := by
  unfold dueB
  rw [(e x).1, (e x).2.2.1, upN_e e, (e (upN Bc 7 x)).1]
theorem slM_e {n : Nat} {Bc Br : Nat → Bk} (e : lwR n Bc Br) (md q : Nat) (dt : Int64) (Ds : Nat → dTx) (t : Nat) : slM md Br q dt Ds t = slM md Bc q dt Ds t := by
  unfold slM
  rw [(e q).1, dueB_e e]
theorem slF_e {n : Nat} {Bc Br : Nat → Bk} (e : lwR n Bc Br) (md q : Nat) (dt : Int64) (Ds : Nat → dTx) (t : Nat) : slF md Br q dt Ds t = slF md Bc q dt Ds t := by
  unfold slF
  rw [slM_e e, dueB_e e]
theorem rqS.dd {S : ks_S} {V : Nat → Value} {F n best : Nat} {B : Nat → Bk} {C R : List Nat} {t : Nat} {D Ds : Nat → dTx} {T : List Nat} {q : Nat} {dt : Int64} {rs : Nat} (h : rqS S V F n best B C R t D T q dt rs) (e : ∀ i, i < t → D i = Ds i) : rqS S V F n best B C R t Ds T q dt rs := by
  obtain ⟨h1, h2, h3, h4, h5, h6, ⟨⟨h7, ver, loc, inp, out, ids, ix, seq, iln, val, oln, sc, so, U, hA⟩, h8⟩, h9⟩ := h
  exact ⟨h1, h2, h3, h4, h5, h6, ⟨⟨h7, ver, loc, inp, out, ids, ix, seq, iln, val, oln, sc, so, U, fun i hi => by rw [← e i hi]; exact hA i hi⟩, h8⟩, h9⟩
theorem nI_any (x : Int32) : ∃ k, k < 2 ^ 32 ∧ x = nI k := ⟨x.toBitVec.toNat, x.toBitVec.isLt, by
  apply Int32.toBitVec_inj.mp
  show x.toBitVec = BitVec.ofNat 32 x.toBitVec.toNat
  rw [BitVec.ofNat_toNat]
  simp⟩
theorem rqS.tm {S S1 : ks_S} {V V1 : Nat → Value} {F n best : Nat} {B : Nat → Bk} {C R : List Nat} {t : Nat} {D : Nat → dTx} {T : List Nat} {q : Nat} {dt : Int64} {rs : Nat} (h : rqS S V F n best B C R t D T q dt rs) (k : pbK [344] [111] S S1 V V1) (h4 : ∃ f, S1.2.2 344 = some (kL 11 f)) : rqS S1 V1 F n best B C R t D T q dt rs := by
  refine h.pb k (h.1.upd k.1.fr k.2.1 (h.1.rs k (by decide) (by decide)) (fun x hx _ hu => ?_) (Or.inr (by decide)) (Or.inr (by decide)) (Or.inr (by decide)) (Or.inr ⟨by decide, k.2.2 _ (by decide)⟩) (Or.inr ⟨by decide, k.2.2 _ (by decide), k.2.2 _ (by decide), k.2.2 _ (by decide)⟩) ⟨by decide, Or.inr (by decide)⟩ (by decide) (Or.inr (by decide)) (Or.inr (by decide)) (fun p hp hm => ?_)) (by decide) (by decide) (h.dr k (by decide) (by decide)) (h.tp k (by decide) (by decide)) (h.pq k (by decide)) (h.p5 k (by decide))
  · have z : ∀ x ∈ ([290, 344] : List Nat), rqU x = false := by decide
    rw [z x hx] at hu
    cases hu
  · have z4 : ∀ p ∈ shL, p.1 ∈ ([290, 344] : List Nat) → p = (344, 2, 11) := by decide
    rw [z4 p hp hm]
    exact h4
set_option maxRecDepth 100000 in
set_option maxHeartbeats 3200000 in
theorem op_block {l : Launch} {G : ks_G} {K : lwK} {o c : Nat} {S : ks_S} (htr : l.stackTraces = false) (hc : c ≤ 512) {x : Int32} {y : Int32} (hKB : lwKB K) (hI : lwI K o c S) : opJ l G K o c yL_block mL_block hL_block yX16_block mX16_block [.int x, .int y] S := by
  obtain ⟨n, best, Bc, Br, C, R, t, q, dt, rs, Ds, D, T, V, F, hC, hR, hr, ⟨⟨f, ho⟩, ho5, hoS⟩, r1, r2⟩ := hI
  have h0 := hC.1.1
  have hT := hC.1.2.2.1
  have hDs := hC.2.2.2.1
  have hB9 := lw_B
  have hSB : S.1 < ks_B := hC.2.2.2.2.2.2.1.2.1
  have hn60 : n ≤ 60 := by
    obtain ⟨cc, tk, hX⟩ := hC.2.2.2.2.1
    exact hX.2.2.2
  have hS9 : S.1 + F + 50 < ks_B := by omega
  obtain ⟨cc, tk, hX⟩ := hC.2.2.2.2.1
  obtain ⟨kW, kV, kH, kt, kd⟩ := hKB n best Bc Br C hr.2.2.2.2.2
  have eR := hr.2.2.2.1
  by_cases hx : ¬ x < 0 ∧ x < nI n
  · obtain ⟨k, hk9, rfl⟩ := nI_dec hx.1
    have hk : k < n := (nI_lt9 hk9 (by omega)).mp hx.2
    by_cases hy : ¬ y < 0 ∧ y ≤ nI 8
    · obtain ⟨j, hj9, rfl⟩ := nI_dec hy.1
      have hj : j ≤ 8 := (nI_le9 hj9 (by decide)).mp hy.2
      have hj2 : j = 0 ∨ j = 1 ∨ j = 2 ∨ j = 3 ∨ j = 4 ∨ j = 5 ∨ j = 6 ∨ j = 7 ∨ j = 8 := by omega
      clear hj hj9 hy
      rcases hj2 with rfl | rfl | rfl | rfl | rfl | rfl | rfl | rfl | rfl
      · refine ⟨0, fun S1 => S1 = ks_set S o (kJ 1 (va_up f 0 (lN (bkH (Bc k))))), by decide, (hl_block_ok (d := 16) htr h0 (c_jd_block0 (d := 13) h0 hX hk (by have := (kV k hk).1; omega)) (fun z S1 y => ⟨_, f, y.1, by rw [y.2]; exact ho⟩)).mono (fun z S1 y => ?_), ?_⟩
        · obtain ⟨e, v, S0, f0, ⟨ev, e0⟩, y2, y3⟩ := y
          cases ev
          subst e0
          have ef : f0 = f := by
            rw [ho] at y2
            cases y2
            rfl
          rw [ef] at y3
          exact ⟨e, y3⟩
        · rintro S1 rfl

          have hC2 := hC.out (g := va_up f 0 (lN (bkH (Bc k)))) ho ho5
          have hR2 := hR.out (g := va_up f 0 (lN (bkH (Bc k)))) ho ho5 hoS
          refine ⟨⟨V, hR2.1.1⟩, (c_mr_block0 (d := 14) hR2.1.1 hR2.2.2.2.1.1 hR2.2.2.1 hk (by rw [(eR k).2.2.1]; have := (kV k hk).1; omega)).mono (fun z S2 y => ?_)⟩
          obtain ⟨rfl, V2, p, v⟩ := y
          obtain ⟨g1, g2⟩ := lw_ref (K := K) (o := o) (c := c) (C0 := S) hC2 (hR2.no p (by decide)) p (fun x hx => by cases hx) hr (ks_set_same _ _ _) ho5 hoS ⟨Nat.le_succ _, by show S.2.1 ≤ _; omega⟩ r1 r2
          exact ⟨_, V2, _, rfl, p.2.1, v, g1, fun _ => by rw [(eR k).2.2.1]; exact va_up_self _ _ _, g2⟩
      · refine ⟨0, fun S1 => S1 = ks_set S o (kJ 1 (va_up f 0 ((nI (bkP (Bc k)) - 1).toInt64))), by decide, (hl_block_ok (d := 16) htr h0 (c_jd_block1 (d := 13) h0 hX hk) (fun z S1 y => ⟨_, f, y.1, by rw [y.2]; exact ho⟩)).mono (fun z S1 y => ?_), ?_⟩
        · obtain ⟨e, v, S0, f0, ⟨ev, e0⟩, y2, y3⟩ := y
          cases ev
          subst e0
          have ef : f0 = f := by
            rw [ho] at y2
            cases y2
            rfl
          rw [ef] at y3
          exact ⟨e, y3⟩
        · rintro S1 rfl

          have hC2 := hC.out (g := va_up f 0 ((nI (bkP (Bc k)) - 1).toInt64)) ho ho5
          have hR2 := hR.out (g := va_up f 0 ((nI (bkP (Bc k)) - 1).toInt64)) ho ho5 hoS
          refine ⟨⟨V, hR2.1.1⟩, (c_mr_block1 (d := 14) hR2.1.1 hR2.2.2.2.1.1 hR2.2.2.1 hk).mono (fun z S2 y => ?_)⟩
          obtain ⟨rfl, V2, p, v⟩ := y
          obtain ⟨g1, g2⟩ := lw_ref (K := K) (o := o) (c := c) (C0 := S) hC2 (hR2.no p (by decide)) p (fun x hx => by cases hx) hr (ks_set_same _ _ _) ho5 hoS ⟨Nat.le_succ _, by show S.2.1 ≤ _; omega⟩ r1 r2
          exact ⟨_, V2, _, rfl, p.2.1, v, g1, fun _ => by rw [(eR k).2.1]; exact va_up_self _ _ _, g2⟩
      · refine ⟨0, fun S1 => S1 = ks_set S o (kJ 1 (va_up f 0 (lN (if bkD (Bc k) = true then 2 else if stL Bc k n best = k then 1 else 0)))), by decide, (hl_block_ok (d := 16) htr h0 (c_jd_block2 (d := 13) h0 hX hk kW hr.1) (fun z S1 y => ⟨_, f, y.1, by rw [y.2]; exact ho⟩)).mono (fun z S1 y => ?_), ?_⟩
        · obtain ⟨e, v, S0, f0, ⟨ev, e0⟩, y2, y3⟩ := y
          cases ev
          subst e0
          have ef : f0 = f := by
            rw [ho] at y2
            cases y2
            rfl
          rw [ef] at y3
          exact ⟨e, y3⟩
        · rintro S1 rfl

          have hC2 := hC.out (g := va_up f 0 (lN (if bkD (Bc k) = true then 2 else if stL Bc k n best = k then 1 else 0))) ho ho5
          have hR2 := hR.out (g := va_up f 0 (lN (if bkD (Bc k) = true then 2 else if stL Bc k n best = k then 1 else 0))) ho ho5 hoS
          refine ⟨⟨V, hR2.1.1⟩, (c_mr_block2 (d := 14) hR2.1.1 hR2.2.2.2.1.1 hR2.2.2.1 hk hR2.2.2.2.1.2.1 hr.1 (kW.eq eR)).mono (fun z S2 y => ?_)⟩
          obtain ⟨rfl, V2, p, v⟩ := y
          obtain ⟨g1, g2⟩ := lw_ref (K := K) (o := o) (c := c) (C0 := S) hC2 (hR2.no p (by decide)) p (fun x hx => by cases hx) hr (ks_set_same _ _ _) ho5 hoS ⟨Nat.le_succ _, by show S.2.1 ≤ _; omega⟩ r1 r2
          exact ⟨_, V2, _, rfl, p.2.1, v, g1, fun _ => by rw [(eR k).2.2.2.2, stL_e eR]; exact va_up_self _ _ _, g2⟩
      · refine ⟨0, fun S1 => S1 = ks_set S o (kJ 1 (va_up f 0 (lN (tmB (bkM (Bc k)))))), by decide, (hl_block_ok (d := 16) htr h0 (c_jd_block3 (d := 13) h0 hX hk) (fun z S1 y => ⟨_, f, y.1, by rw [y.2]; exact ho⟩)).mono (fun z S1 y => ?_), ?_⟩
        · obtain ⟨e, v, S0, f0, ⟨ev, e0⟩, y2, y3⟩ := y
          cases ev
          subst e0
          have ef : f0 = f := by
            rw [ho] at y2
            cases y2
            rfl
          rw [ef] at y3
          exact ⟨e, y3⟩
        · rintro S1 rfl

          have hC2 := hC.out (g := va_up f 0 (lN (tmB (bkM (Bc k))))) ho ho5
          have hR2 := hR.out (g := va_up f 0 (lN (tmB (bkM (Bc k))))) ho ho5 hoS
          refine ⟨⟨V, hR2.1.1⟩, (c_mr_block3 (d := 14) hR2.1.1 hR2.2.2.2.1.1 hR2.2.2.1 hk).mono (fun z S2 y => ?_)⟩
          obtain ⟨rfl, V2, p, v⟩ := y
          obtain ⟨g1, g2⟩ := lw_ref (K := K) (o := o) (c := c) (C0 := S) hC2 (hR2.no p (by decide)) p (fun x hx => by cases hx) hr (ks_set_same _ _ _) ho5 hoS ⟨Nat.le_succ _, by show S.2.1 ≤ _; omega⟩ r1 r2
          exact ⟨_, V2, _, rfl, p.2.1, v, g1, fun _ => by rw [(eR k).1]; exact va_up_self _ _ _, g2⟩
      · refine ⟨0, fun S1 => S1 = ks_set S o (kJ 1 (va_up f 0 (lN (btB (bkM (Bc k)))))), by decide, (hl_block_ok (d := 16) htr h0 (c_jd_block4 (d := 13) h0 hX hk (kt k hk)) (fun z S1 y => ⟨_, f, y.1, by rw [y.2]; exact ho⟩)).mono (fun z S1 y => ?_), ?_⟩
        · obtain ⟨e, v, S0, f0, ⟨ev, e0⟩, y2, y3⟩ := y
          cases ev
          subst e0
          have ef : f0 = f := by
            rw [ho] at y2
            cases y2
            rfl
          rw [ef] at y3
          exact ⟨e, y3⟩
        · rintro S1 rfl

          have hC2 := hC.out (g := va_up f 0 (lN (btB (bkM (Bc k))))) ho ho5
          have hR2 := hR.out (g := va_up f 0 (lN (btB (bkM (Bc k))))) ho ho5 hoS
          refine ⟨⟨V, hR2.1.1⟩, (c_mr_block4 (d := 14) hR2.1.1 hR2.2.2.2.1.1 hR2.2.2.1 hk).mono (fun z S2 y => ?_)⟩
          obtain ⟨rfl, V2, p, v⟩ := y
          obtain ⟨g1, g2⟩ := lw_ref (K := K) (o := o) (c := c) (C0 := S) hC2 (hR2.no p (by decide)) p (fun x hx => by cases hx) hr (ks_set_same _ _ _) ho5 hoS ⟨Nat.le_succ _, by show S.2.1 ≤ _; omega⟩ r1 r2
          exact ⟨_, V2, _, rfl, p.2.1, v, g1, fun _ => by rw [(eR k).1]; exact va_up_self _ _ _, g2⟩
      · refine ⟨0, fun S1 => S1 = ks_set S o (kJ 1 (va_up f 0 (lN (mg (bkM (Bc k)) 80)))), by decide, (hl_block_ok (d := 16) htr h0 (c_jd_block5 (d := 13) h0 hX hk) (fun z S1 y => ⟨_, f, y.1, by rw [y.2]; exact ho⟩)).mono (fun z S1 y => ?_), ?_⟩
        · obtain ⟨e, v, S0, f0, ⟨ev, e0⟩, y2, y3⟩ := y
          cases ev
          subst e0
          have ef : f0 = f := by
            rw [ho] at y2
            cases y2
            rfl
          rw [ef] at y3
          exact ⟨e, y3⟩
        · rintro S1 rfl

          have hC2 := hC.out (g := va_up f 0 (lN (mg (bkM (Bc k)) 80))) ho ho5
          have hR2 := hR.out (g := va_up f 0 (lN (mg (bkM (Bc k)) 80))) ho ho5 hoS
          refine ⟨⟨V, hR2.1.1⟩, (c_mr_block5 (d := 14) hR2.1.1 hR2.2.2.2.1.1 hR2.2.2.1 hk).mono (fun z S2 y => ?_)⟩
          obtain ⟨rfl, V2, p, v⟩ := y
          obtain ⟨g1, g2⟩ := lw_ref (K := K) (o := o) (c := c) (C0 := S) hC2 (hR2.no p (by decide)) p (fun x hx => by cases hx) hr (ks_set_same _ _ _) ho5 hoS ⟨Nat.le_succ _, by show S.2.1 ≤ _; omega⟩ r1 r2
          exact ⟨_, V2, _, rfl, p.2.1, v, g1, fun _ => by rw [(eR k).1]; exact va_up_self _ _ _, g2⟩
      · refine ⟨0, fun S1 => S1 = ks_set S o (kJ 1 (va_up f 0 (lN (bkM (Bc k)).length))), by decide, (hl_block_ok (d := 16) htr h0 (c_jd_block6 (d := 13) h0 hX hk) (fun z S1 y => ⟨_, f, y.1, by rw [y.2]; exact ho⟩)).mono (fun z S1 y => ?_), ?_⟩
        · obtain ⟨e, v, S0, f0, ⟨ev, e0⟩, y2, y3⟩ := y
          cases ev
          subst e0
          have ef : f0 = f := by
            rw [ho] at y2
            cases y2
            rfl
          rw [ef] at y3
          exact ⟨e, y3⟩
        · rintro S1 rfl

          have hC2 := hC.out (g := va_up f 0 (lN (bkM (Bc k)).length)) ho ho5
          have hR2 := hR.out (g := va_up f 0 (lN (bkM (Bc k)).length)) ho ho5 hoS
          refine ⟨⟨V, hR2.1.1⟩, (c_mr_block6 (d := 14) hR2.1.1 hR2.2.2.2.1.1 hR2.2.2.1 hk).mono (fun z S2 y => ?_)⟩
          obtain ⟨rfl, V2, p, v⟩ := y
          obtain ⟨g1, g2⟩ := lw_ref (K := K) (o := o) (c := c) (C0 := S) hC2 (hR2.no p (by decide)) p (fun x hx => by cases hx) hr (ks_set_same _ _ _) ho5 hoS ⟨Nat.le_succ _, by show S.2.1 ≤ _; omega⟩ r1 r2
          exact ⟨_, V2, _, rfl, p.2.1, v, g1, fun _ => by rw [(eR k).1]; exact va_up_self _ _ _, g2⟩
      · refine ⟨0, fun S1 => S1 = ks_set S o (kJ 1 (va_up f 0 (lN (bkW (Bc k))))), by decide, (hl_block_ok (d := 16) htr h0 (c_jd_block7 (d := 13) h0 hX hk) (fun z S1 y => ⟨_, f, y.1, by rw [y.2]; exact ho⟩)).mono (fun z S1 y => ?_), ?_⟩
        · obtain ⟨e, v, S0, f0, ⟨ev, e0⟩, y2, y3⟩ := y
          cases ev
          subst e0
          have ef : f0 = f := by
            rw [ho] at y2
            cases y2
            rfl
          rw [ef] at y3
          exact ⟨e, y3⟩
        · rintro S1 rfl

          have hC2 := hC.out (g := va_up f 0 (lN (bkW (Bc k)))) ho ho5
          have hR2 := hR.out (g := va_up f 0 (lN (bkW (Bc k)))) ho ho5 hoS
          refine ⟨⟨V, hR2.1.1⟩, (c_mr_block7 (d := 14) hR2.1.1 hR2.2.2.2.1.1 hR2.2.2.1 hk).mono (fun z S2 y => ?_)⟩
          obtain ⟨rfl, V2, p, v⟩ := y
          obtain ⟨g1, g2⟩ := lw_ref (K := K) (o := o) (c := c) (C0 := S) hC2 (hR2.no p (by decide)) p (fun x hx => by cases hx) hr (ks_set_same _ _ _) ho5 hoS ⟨Nat.le_succ _, by show S.2.1 ≤ _; omega⟩ r1 r2
          exact ⟨_, V2, _, rfl, p.2.1, v, g1, fun _ => by rw [(eR k).2.2.2.1]; exact va_up_self _ _ _, g2⟩
      · obtain ⟨f48, h48⟩ := hC.2.2.1.2.1
        refine ⟨0, fun S1 => ∃ (S0 : ks_S) (f0 : Nat → Int64), ks_up S S0 [48] ∧ (∃ f, S0.2.2 48 = some (kL 11 f)) ∧ S0.2.2 o = some (kJ 1 f0) ∧ S1 = ks_set S0 o (kJ 1 (va_up f0 0 (lN (mdF Bc k)))), by decide, (hl_block_ok (d := 16) htr h0 (c_jd_block8 (d := 13) h0 hX hk kW h48) (fun z S1 y => ⟨_, f, y.1, y.2.1.at ho (by simp only [List.mem_cons, List.not_mem_nil, or_false]; omega)⟩)).mono (fun z S1 y => ?_), ?_⟩
        · obtain ⟨e, v, S0, f0, ⟨ev, u, hb⟩, y2, y3⟩ := y
          cases ev
          exact ⟨e, S0, f0, u, hb, y2, y3⟩
        · rintro S1 ⟨S0, f0, u, hb, e1, rfl⟩

          have hC1 := hC.up u (by decide) (u.at h0 (by decide)) (hT.ag (u.2.2 _ (by decide)) (u.2.2 _ (by decide))) (Or.inr (by decide)) (Or.inr (by decide)) (Or.inr ⟨Or.inr (by decide), by decide⟩) (Or.inr (by decide)) (Or.inr (by decide)) (Or.inl hb) (Or.inr (by decide)) (by decide) (Or.inr (by decide)) (Or.inr (by decide)) (hDs.ex u.ex9 (by decide) (by have := hR.2.2.2.2.2.2.2.2.2.2; omega))
          have hR1 := hR.lo u (by decide) (cq_low hC1)
          have hC2 := hC1.out (g := va_up f0 0 (lN (mdF Bc k))) e1 ho5
          have hR2 := hR1.out (g := va_up f0 0 (lN (mdF Bc k))) e1 ho5 (by rw [u.1]; exact hoS)
          have u1 : S0.1 = S.1 := u.1
          have u2 : S0.2.1 = S.2.1 := u.2.1
          obtain ⟨f344, h344⟩ : ∃ f, (ks_set S0 o (kJ 1 (va_up f0 0 (lN (mdF Bc k))))).2.2 344 = some (kL 11 f) := hR2.1.s (p := (344, 2, 11)) (by decide)
          refine ⟨⟨V, hR2.1.1⟩, (c_mr_block8 (d := 14) hR2.1.1 hR2.2.2.2.1.1 hR2.2.2.1 hk (kW.eq eR) h344).mono (fun z S2 y => ?_)⟩
          obtain ⟨rfl, V2, p, v, ⟨f9, e9⟩⟩ := y

          obtain ⟨g1, g2⟩ := lw_ref (K := K) (o := o) (c := c) (C0 := S) hC2 (hR2.tm p ⟨f9, e9⟩) p (by decide) hr (ks_set_same _ _ _) ho5 (by show o < S0.1; omega) ⟨by show S0.1 ≤ _; omega, by show S0.2.1 ≤ _; omega⟩ r1 r2
          exact ⟨_, V2, _, rfl, p.2.1, v, g1, fun _ => by rw [mdF_e eR]; exact va_up_self _ _ _, g2⟩
    · refine ⟨1, fun S1 => S1 = ks_one S, by decide, (hl_block_no1 (d := 16) htr h0 (t_blockW (d := 7) htr hSB h0 hX hk (x_toI hy (by decide))) (fun z S1 y => y.1)).mono (fun z S1 y => ⟨y.1, by obtain ⟨_, _, e⟩ := y.2; exact e⟩), ?_⟩
      rintro S1 rfl
      have hC1 := hC.one (by omega)
      have hR1 := hR.one (S1 := S) (L := []) (by omega) (cq_low hC)
      refine ⟨⟨V, hR1.1.1⟩, (r_blockW (d := 16) hR1.1.1 hR1.2.2.2.1.1 (by omega) hk hy).mono (fun z S2 y => ?_)⟩
      obtain ⟨rfl, V2, p, v⟩ := y
      obtain ⟨g1, g2⟩ := lw_ref (K := K) (o := o) (c := c) (C0 := S) hC1 (hR1.no p (by decide)) p (fun x hx => by cases hx) hr ho ho5 (Nat.lt_succ_of_lt hoS) ⟨Nat.le_refl _, Nat.le_refl _⟩ r1 r2
      exact ⟨_, V2, f, rfl, p.2.1, v, g1, fun h => absurd h (by decide), g2⟩
  · refine ⟨1, fun S1 => S1 = ks_one S, by decide, (hl_block_no1 (d := 16) htr h0 (t_block (d := 7) htr hSB h0 hX hx) (fun z S1 y => y.1)).mono (fun z S1 y => ⟨y.1, by obtain ⟨_, _, e⟩ := y.2; exact e⟩), ?_⟩
    rintro S1 rfl
    have hC1 := hC.one (by omega)
    have hR1 := hR.one (S1 := S) (L := []) (by omega) (cq_low hC)
    refine ⟨⟨V, hR1.1.1⟩, (r_block (d := 16) hR1.1.1 hR1.2.2.2.1.1 hx).mono (fun z S2 y => ?_)⟩
    obtain ⟨rfl, V2, p, v⟩ := y
    obtain ⟨g1, g2⟩ := lw_ref (K := K) (o := o) (c := c) (C0 := S) hC1 (hR1.no p (by decide)) p (fun x hx => by cases hx) hr ho ho5 (Nat.lt_succ_of_lt hoS) ⟨Nat.le_refl _, Nat.le_refl _⟩ r1 r2
    exact ⟨_, V2, f, rfl, p.2.1, v, g1, fun h => absurd h (by decide), g2⟩
set_option maxRecDepth 100000 in
set_option maxHeartbeats 3200000 in
theorem op_seal {l : Launch} {G : ks_G} {K : lwK} {o c : Nat} {S : ks_S} (htr : l.stackTraces = false) (hc : c ≤ 512) {x : Int32} (hKB : lwKB K) (hI : lwI K o c S) : opI l G K o c yL_seal mL_seal hL_seal yX16_seal mX16_seal [.int x] S := by
  obtain ⟨n, best, Bc, Br, C, R, t, q, dt, rs, Ds, D, T, V, F, hC, hR, hr, ⟨⟨f, ho⟩, ho5, hoS⟩, r1, r2⟩ := hI
  have h0 := hC.1.1
  have hT := hC.1.2.2.1
  have hDs := hC.2.2.2.1
  have hB9 := lw_B
  have hSB : S.1 < ks_B := hC.2.2.2.2.2.2.1.2.1
  have hn60 : n ≤ 60 := by
    obtain ⟨cc, tk, hX⟩ := hC.2.2.2.2.1
    exact hX.2.2.2
  have hS9 : S.1 + F + 50 < ks_B := by omega
  obtain ⟨cc, tk, hX⟩ := hC.2.2.2.2.1
  obtain ⟨kW, kV, kH, kt, kd⟩ := hKB n best Bc Br C hr.2.2.2.2.2
  have eR := hr.2.2.2.1
  obtain ⟨od9, hd9⟩ := hC.1.2.2.2.1
  obtain ⟨ow9, hw9⟩ := hC.1.2.2.2.2
  obtain ⟨g53, k53, h53⟩ := hC.2.2.1.2.2.2.2.2.1
  obtain ⟨g54, k54, h54⟩ := hC.2.2.1.2.2.2.2.2.2.1
  obtain ⟨N9, hTg9⟩ := hC.2.1.2.2
  have hbx : 284 ≤ bkN (Bc q) := by
    obtain ⟨sl, -, N1, -⟩ := hC.2.2.2.2.2.1
    exact (N1 q hr.2.2.1).1.1
  replace hR := hR.dd hr.2.2.2.2.1
  replace hr : best < n ∧ t ≤ 12 ∧ q < n ∧ lwR n Bc Br ∧ (∀ i, i < t → Ds i = Ds i) ∧ K n best Bc Br C := ⟨hr.1, hr.2.1, hr.2.2.1, hr.2.2.2.1, fun _ _ => rfl, hr.2.2.2.2.2⟩
  by_cases hx : ¬ x < 0 ∧ x ≤ nI 5
  · obtain ⟨k, hk9, rfl⟩ := nI_dec hx.1
    have hk : k ≤ 5 := (nI_le9 hk9 (by decide)).mp hx.2
    have hk2 : k = 0 ∨ k = 1 ∨ k = 2 ∨ k = 3 ∨ k = 4 ∨ k = 5 := by omega
    clear hk hk9 hx
    rcases hk2 with rfl | rfl | rfl | rfl | rfl | rfl
    · by_cases hf : (slM 0 Bc q dt Ds t).length ≤ 1600
      · refine ⟨0, fun S1 => ∃ (S0 : ks_S) (f0 : Nat → Int64), ks_up S S0 [45, 3, 4, 5, 6, 9, 8, 10, 11, 12, 13, 53, 54, 2, 1] ∧ (hsO S0 ∧ (∃ N, tg_ok S0 N) ∧ (∃ ow, bfS S0 5 6 8000 ow) ∧ (∃ od, bfS S0 3 4 1600 od) ∧ (∃ g, kO g ∧ S0.2.2 53 = some (kB 384 g)) ∧ (∃ g, kO g ∧ S0.2.2 54 = some (kB 32 g)) ∧ bfS S0 1 2 1600 (some (slF 0 Bc q dt Ds t))) ∧ S0.2.2 o = some (kJ 1 f0) ∧ S1 = ks_set S0 o (kJ 1 (va_up f0 0 (nI (slM 0 Bc q dt Ds t).length).toInt64)), by decide, (hl_seal_ok (d := 16) htr h0 (c_jd_seal0 (d := 9) h0 hX hT hDs hr.2.1 hC.1.2.1 hC.2.1.1.1.2.1 hw9 hd9 h53 k53 h54 k54 hC.2.2.1.2.2.2.2.2.2.2 hTg9 kW hr.2.2.1 (fun i hi => by have := (kV i hi).1; omega) (kd q hr.2.2.1) hbx hf) (fun z S1 y => ⟨_, f, y.1, y.2.1.at ho (by simp only [List.mem_cons, List.not_mem_nil, or_false]; omega)⟩)).mono (fun z S1 y => ?_), ?_⟩
        · obtain ⟨e, v, S0, f0, ⟨ev, u, hb⟩, y2, y3⟩ := y
          cases ev
          exact ⟨e, S0, f0, u, hb, y2, y3⟩
        · rintro S1 ⟨S0, f0, u, hb, e1, rfl⟩

          have hC1 := hC.up u (T1 := slF 0 Bc q dt Ds t) (by decide) (u.at h0 (by decide)) hb.2.2.2.2.2.2 (Or.inl hb.2.2.2.1) (Or.inl hb.2.2.1) (Or.inr ⟨Or.inl hb.1, by decide⟩) (Or.inr (by decide)) (Or.inl hb.2.1) (Or.inr (by decide)) (Or.inr (by decide)) (by decide) (Or.inl hb.2.2.2.2.1) (Or.inl hb.2.2.2.2.2.1) (hDs.ex u.ex9 (by decide) (by have := hR.2.2.2.2.2.2.2.2.2.2; omega))
          have hR1 := hR.lo u (by decide) (cq_low hC1)
          have hC2 := hC1.out (g := va_up f0 0 (nI (slM 0 Bc q dt Ds t).length).toInt64) e1 ho5
          have hR2 := hR1.out (g := va_up f0 0 (nI (slM 0 Bc q dt Ds t).length).toInt64) e1 ho5 (by rw [u.1]; exact hoS)
          have u1 : S0.1 = S.1 := u.1
          have u2 : S0.2.1 = S.2.1 := u.2.1
          refine ⟨⟨V, hR2.1.1⟩, (c_mr_seal0 (d := 11) hR2.1.1 hR2.2.2.2.2.2.2.2.1 hR2.2.2.2.2.2.2.1.1 hR2.2.2.2.2.2.2.1.2 hR2.2.2.2.2.2.2.2.2.1.2.2 hR2.1.as hR2.2.2.2.2.2.2.2.2.1.1 hR2.2.2.1 hr.2.2.1 (kW.eq eR) kH (by rw [(eR q).2.2.1]; have := (kV q hr.2.2.1).1; omega) hR2.1.2.2.2.2.2.2.2.2.2.1 (by rw [dueB_e eR]; exact kd q hr.2.2.1) (by rw [slM_e eR]; exact hf)).mono (fun z S2 y => ?_)⟩
          obtain ⟨rfl, V2, p, v, hA2, hB2⟩ := y

          obtain ⟨g1, g2⟩ := lw_ref (K := K) (o := o) (c := c) (C0 := S) hC2 (hR2.sl p (fun x hx => by rcases List.mem_cons.mp hx with h | h; exact Or.inl h; exact Or.inr h) hA2 (by rw [slF_e eR] at hB2; exact hB2)) p (by decide) hr (ks_set_same _ _ _) ho5 (by show o < S0.1; omega) ⟨by show S0.1 ≤ _; omega, by show S0.2.1 ≤ _; omega⟩ r1 r2
          exact ⟨_, V2, _, rfl, p.2.1, v, g1, fun _ => by rw [slM_e eR]; exact va_up_self _ _ _, g2⟩
      · refine ⟨2, fun S1 => ∃ S0, S1 = ks_one S0 ∧ ks_up S S0 [45, 3, 4, 5, 6, 9, 8, 10, 11, 12, 13, 53, 54] ∧ (hsO S0 ∧ (∃ N, tg_ok S0 N) ∧ (∃ ow, bfS S0 5 6 8000 ow) ∧ (∃ od, bfS S0 3 4 1600 od) ∧ (∃ g, kO g ∧ S0.2.2 53 = some (kB 384 g)) ∧ ∃ g, kO g ∧ S0.2.2 54 = some (kB 32 g)), by decide, (hl_seal_no0 (d := 16) htr h0 (t_sealF0 (d := 7) htr hSB h0 hX hDs hr.2.1 hC.1.2.1 hC.2.1.1.1.2.1 hw9 hd9 h53 k53 h54 k54 hC.2.2.1.2.2.2.2.2.2.2 hTg9 kW hr.2.2.1 (fun i hi => by have := (kV i hi).1; omega) (kd q hr.2.2.1) hbx hf) (fun z S1 y => y.1)).mono (fun z S1 y => ⟨y.1, by obtain ⟨_, _, S0, e, u, hb⟩ := y.2; exact ⟨S0, e, u, hb⟩⟩), ?_⟩
        rintro S1 ⟨S0, rfl, u, hb⟩
        have hC0 := hC.up u (by decide) (u.at h0 (by decide)) (hT.ag (u.2.2 _ (by decide)) (u.2.2 _ (by decide))) (Or.inl hb.2.2.2.1) (Or.inl hb.2.2.1) (Or.inr ⟨Or.inl hb.1, by decide⟩) (Or.inr (by decide)) (Or.inl hb.2.1) (Or.inr (by decide)) (Or.inr (by decide)) (by decide) (Or.inl hb.2.2.2.2.1) (Or.inl hb.2.2.2.2.2) (hDs.ex u.ex9 (by decide) (by have := hR.2.2.2.2.2.2.2.2.2.2; omega))
        have hR0 := hR.lo u (by decide) (cq_low hC0)
        have u1 : S0.1 = S.1 := u.1
        have u2 : S0.2.1 = S.2.1 := u.2.1
        have hC1 := hC0.one (by rw [u1]; omega)
        have hR1 := hR0.one (S1 := S) (L := []) (by rw [u1]; omega) (cq_low hC0)
        have ho1 : S0.2.2 o = some (kJ 1 f) := u.at ho (by simp only [List.mem_cons, List.not_mem_nil, or_false]; omega)
        refine ⟨⟨V, hR1.1.1⟩, (r_sealF0 (d := 11) hR1.1.1 hR1.2.2.2.2.2.2.1.1 hR1.2.2.2.2.2.2.1.2 hR1.2.2.2.2.2.2.2.2.1.2.2 hR1.1.as hR1.2.2.2.2.2.2.2.2.1.1 hR1.2.2.1 hr.2.2.1 (kW.eq eR) kH (by rw [(eR q).2.2.1]; have := (kV q hr.2.2.1).1; omega) hR1.1.2.2.2.2.2.2.2.2.2.1 (by rw [dueB_e eR]; exact kd q hr.2.2.1) (by rw [slM_e eR]; exact hf)).mono (fun z S2 y => ?_)⟩
        obtain ⟨rfl, V2, p, v, hA2⟩ := y
        have tp2 := hR1.tp p (by decide) (by decide)
        obtain ⟨g1, g2⟩ := lw_ref (K := K) (o := o) (c := c) (C0 := S) hC1 (hR1.sl (p.mono (fun a h => h) (by decide)) (fun x hx => Or.inr hx) hA2 tp2) p (by decide) hr ho1 ho5 (by show o < S0.1 + 1; omega) ⟨by show S0.1 + 1 ≤ _; omega, by show S0.2.1 + 6 ≤ _; omega⟩ r1 r2
        exact ⟨_, V2, f, rfl, p.2.1, v, g1, fun h => absurd h (by decide), g2⟩
    · by_cases hf : (slM 1 Bc q dt Ds t).length ≤ 1600
      · refine ⟨0, fun S1 => ∃ (S0 : ks_S) (f0 : Nat → Int64), ks_up S S0 [45, 3, 4, 5, 6, 9, 8, 10, 11, 12, 13, 53, 54, 2, 1] ∧ (hsO S0 ∧ (∃ N, tg_ok S0 N) ∧ (∃ ow, bfS S0 5 6 8000 ow) ∧ (∃ od, bfS S0 3 4 1600 od) ∧ (∃ g, kO g ∧ S0.2.2 53 = some (kB 384 g)) ∧ (∃ g, kO g ∧ S0.2.2 54 = some (kB 32 g)) ∧ bfS S0 1 2 1600 (some (slF 1 Bc q dt Ds t))) ∧ S0.2.2 o = some (kJ 1 f0) ∧ S1 = ks_set S0 o (kJ 1 (va_up f0 0 (nI (slM 1 Bc q dt Ds t).length).toInt64)), by decide, (hl_seal_ok (d := 16) htr h0 (c_jd_seal1 (d := 9) h0 hX hT hDs hr.2.1 hC.1.2.1 hC.2.1.1.1.2.1 hw9 hd9 h53 k53 h54 k54 hC.2.2.1.2.2.2.2.2.2.2 hTg9 kW hr.2.2.1 (fun i hi => by have := (kV i hi).1; omega) (kd q hr.2.2.1) hbx hf) (fun z S1 y => ⟨_, f, y.1, y.2.1.at ho (by simp only [List.mem_cons, List.not_mem_nil, or_false]; omega)⟩)).mono (fun z S1 y => ?_), ?_⟩
        · obtain ⟨e, v, S0, f0, ⟨ev, u, hb⟩, y2, y3⟩ := y
          cases ev
          exact ⟨e, S0, f0, u, hb, y2, y3⟩
        · rintro S1 ⟨S0, f0, u, hb, e1, rfl⟩

          have hC1 := hC.up u (T1 := slF 1 Bc q dt Ds t) (by decide) (u.at h0 (by decide)) hb.2.2.2.2.2.2 (Or.inl hb.2.2.2.1) (Or.inl hb.2.2.1) (Or.inr ⟨Or.inl hb.1, by decide⟩) (Or.inr (by decide)) (Or.inl hb.2.1) (Or.inr (by decide)) (Or.inr (by decide)) (by decide) (Or.inl hb.2.2.2.2.1) (Or.inl hb.2.2.2.2.2.1) (hDs.ex u.ex9 (by decide) (by have := hR.2.2.2.2.2.2.2.2.2.2; omega))
          have hR1 := hR.lo u (by decide) (cq_low hC1)
          have hC2 := hC1.out (g := va_up f0 0 (nI (slM 1 Bc q dt Ds t).length).toInt64) e1 ho5
          have hR2 := hR1.out (g := va_up f0 0 (nI (slM 1 Bc q dt Ds t).length).toInt64) e1 ho5 (by rw [u.1]; exact hoS)
          have u1 : S0.1 = S.1 := u.1
          have u2 : S0.2.1 = S.2.1 := u.2.1
          refine ⟨⟨V, hR2.1.1⟩, (c_mr_seal1 (d := 11) hR2.1.1 hR2.2.2.2.2.2.2.2.1 hR2.2.2.2.2.2.2.1.1 hR2.2.2.2.2.2.2.1.2 hR2.2.2.2.2.2.2.2.2.1.2.2 hR2.1.as hR2.2.2.2.2.2.2.2.2.1.1 hR2.2.2.1 hr.2.2.1 (kW.eq eR) kH (by rw [(eR q).2.2.1]; have := (kV q hr.2.2.1).1; omega) hR2.1.2.2.2.2.2.2.2.2.2.1 (by rw [dueB_e eR]; exact kd q hr.2.2.1) (by rw [slM_e eR]; exact hf)).mono (fun z S2 y => ?_)⟩
          obtain ⟨rfl, V2, p, v, hA2, hB2⟩ := y

          obtain ⟨g1, g2⟩ := lw_ref (K := K) (o := o) (c := c) (C0 := S) hC2 (hR2.sl p (fun x hx => by rcases List.mem_cons.mp hx with h | h; exact Or.inl h; exact Or.inr h) hA2 (by rw [slF_e eR] at hB2; exact hB2)) p (by decide) hr (ks_set_same _ _ _) ho5 (by show o < S0.1; omega) ⟨by show S0.1 ≤ _; omega, by show S0.2.1 ≤ _; omega⟩ r1 r2
          exact ⟨_, V2, _, rfl, p.2.1, v, g1, fun _ => by rw [slM_e eR]; exact va_up_self _ _ _, g2⟩
      · refine ⟨2, fun S1 => ∃ S0, S1 = ks_one S0 ∧ ks_up S S0 [45, 3, 4, 5, 6, 9, 8, 10, 11, 12, 13, 53, 54] ∧ (hsO S0 ∧ (∃ N, tg_ok S0 N) ∧ (∃ ow, bfS S0 5 6 8000 ow) ∧ (∃ od, bfS S0 3 4 1600 od) ∧ (∃ g, kO g ∧ S0.2.2 53 = some (kB 384 g)) ∧ ∃ g, kO g ∧ S0.2.2 54 = some (kB 32 g)), by decide, (hl_seal_no0 (d := 16) htr h0 (t_sealF1 (d := 7) htr hSB h0 hX hDs hr.2.1 hC.1.2.1 hC.2.1.1.1.2.1 hw9 hd9 h53 k53 h54 k54 hC.2.2.1.2.2.2.2.2.2.2 hTg9 kW hr.2.2.1 (fun i hi => by have := (kV i hi).1; omega) (kd q hr.2.2.1) hbx hf) (fun z S1 y => y.1)).mono (fun z S1 y => ⟨y.1, by obtain ⟨_, _, S0, e, u, hb⟩ := y.2; exact ⟨S0, e, u, hb⟩⟩), ?_⟩
        rintro S1 ⟨S0, rfl, u, hb⟩
        have hC0 := hC.up u (by decide) (u.at h0 (by decide)) (hT.ag (u.2.2 _ (by decide)) (u.2.2 _ (by decide))) (Or.inl hb.2.2.2.1) (Or.inl hb.2.2.1) (Or.inr ⟨Or.inl hb.1, by decide⟩) (Or.inr (by decide)) (Or.inl hb.2.1) (Or.inr (by decide)) (Or.inr (by decide)) (by decide) (Or.inl hb.2.2.2.2.1) (Or.inl hb.2.2.2.2.2) (hDs.ex u.ex9 (by decide) (by have := hR.2.2.2.2.2.2.2.2.2.2; omega))
        have hR0 := hR.lo u (by decide) (cq_low hC0)
        have u1 : S0.1 = S.1 := u.1
        have u2 : S0.2.1 = S.2.1 := u.2.1
        have hC1 := hC0.one (by rw [u1]; omega)
        have hR1 := hR0.one (S1 := S) (L := []) (by rw [u1]; omega) (cq_low hC0)
        have ho1 : S0.2.2 o = some (kJ 1 f) := u.at ho (by simp only [List.mem_cons, List.not_mem_nil, or_false]; omega)
        refine ⟨⟨V, hR1.1.1⟩, (r_sealF1 (d := 11) hR1.1.1 hR1.2.2.2.2.2.2.1.1 hR1.2.2.2.2.2.2.1.2 hR1.2.2.2.2.2.2.2.2.1.2.2 hR1.1.as hR1.2.2.2.2.2.2.2.2.1.1 hR1.2.2.1 hr.2.2.1 (kW.eq eR) kH (by rw [(eR q).2.2.1]; have := (kV q hr.2.2.1).1; omega) hR1.1.2.2.2.2.2.2.2.2.2.1 (by rw [dueB_e eR]; exact kd q hr.2.2.1) (by rw [slM_e eR]; exact hf)).mono (fun z S2 y => ?_)⟩
        obtain ⟨rfl, V2, p, v, hA2⟩ := y
        have tp2 := hR1.tp p (by decide) (by decide)
        obtain ⟨g1, g2⟩ := lw_ref (K := K) (o := o) (c := c) (C0 := S) hC1 (hR1.sl (p.mono (fun a h => h) (by decide)) (fun x hx => Or.inr hx) hA2 tp2) p (by decide) hr ho1 ho5 (by show o < S0.1 + 1; omega) ⟨by show S0.1 + 1 ≤ _; omega, by show S0.2.1 + 6 ≤ _; omega⟩ r1 r2
        exact ⟨_, V2, f, rfl, p.2.1, v, g1, fun h => absurd h (by decide), g2⟩
    · by_cases hf : (slM 2 Bc q dt Ds t).length ≤ 1600
      · refine ⟨0, fun S1 => ∃ (S0 : ks_S) (f0 : Nat → Int64), ks_up S S0 [45, 3, 4, 5, 6, 9, 8, 10, 11, 12, 13, 53, 54, 2, 1] ∧ (hsO S0 ∧ (∃ N, tg_ok S0 N) ∧ (∃ ow, bfS S0 5 6 8000 ow) ∧ (∃ od, bfS S0 3 4 1600 od) ∧ (∃ g, kO g ∧ S0.2.2 53 = some (kB 384 g)) ∧ (∃ g, kO g ∧ S0.2.2 54 = some (kB 32 g)) ∧ bfS S0 1 2 1600 (some (slF 2 Bc q dt Ds t))) ∧ S0.2.2 o = some (kJ 1 f0) ∧ S1 = ks_set S0 o (kJ 1 (va_up f0 0 (nI (slM 2 Bc q dt Ds t).length).toInt64)), by decide, (hl_seal_ok (d := 16) htr h0 (c_jd_seal2 (d := 9) h0 hX hT hDs hr.2.1 hC.1.2.1 hC.2.1.1.1.2.1 hw9 hd9 h53 k53 h54 k54 hC.2.2.1.2.2.2.2.2.2.2 hTg9 kW hr.2.2.1 (fun i hi => by have := (kV i hi).1; omega) (kd q hr.2.2.1) hbx hf) (fun z S1 y => ⟨_, f, y.1, y.2.1.at ho (by simp only [List.mem_cons, List.not_mem_nil, or_false]; omega)⟩)).mono (fun z S1 y => ?_), ?_⟩
        · obtain ⟨e, v, S0, f0, ⟨ev, u, hb⟩, y2, y3⟩ := y
          cases ev
          exact ⟨e, S0, f0, u, hb, y2, y3⟩
        · rintro S1 ⟨S0, f0, u, hb, e1, rfl⟩

          have hC1 := hC.up u (T1 := slF 2 Bc q dt Ds t) (by decide) (u.at h0 (by decide)) hb.2.2.2.2.2.2 (Or.inl hb.2.2.2.1) (Or.inl hb.2.2.1) (Or.inr ⟨Or.inl hb.1, by decide⟩) (Or.inr (by decide)) (Or.inl hb.2.1) (Or.inr (by decide)) (Or.inr (by decide)) (by decide) (Or.inl hb.2.2.2.2.1) (Or.inl hb.2.2.2.2.2.1) (hDs.ex u.ex9 (by decide) (by have := hR.2.2.2.2.2.2.2.2.2.2; omega))
          have hR1 := hR.lo u (by decide) (cq_low hC1)
          have hC2 := hC1.out (g := va_up f0 0 (nI (slM 2 Bc q dt Ds t).length).toInt64) e1 ho5
          have hR2 := hR1.out (g := va_up f0 0 (nI (slM 2 Bc q dt Ds t).length).toInt64) e1 ho5 (by rw [u.1]; exact hoS)
          have u1 : S0.1 = S.1 := u.1
          have u2 : S0.2.1 = S.2.1 := u.2.1
          refine ⟨⟨V, hR2.1.1⟩, (c_mr_seal2 (d := 11) hR2.1.1 hR2.2.2.2.2.2.2.2.1 hR2.2.2.2.2.2.2.1.1 hR2.2.2.2.2.2.2.1.2 hR2.2.2.2.2.2.2.2.2.1.2.2 hR2.1.as hR2.2.2.2.2.2.2.2.2.1.1 hR2.2.2.1 hr.2.2.1 (kW.eq eR) kH (by rw [(eR q).2.2.1]; have := (kV q hr.2.2.1).1; omega) hR2.1.2.2.2.2.2.2.2.2.2.1 (by rw [dueB_e eR]; exact kd q hr.2.2.1) (by rw [slM_e eR]; exact hf)).mono (fun z S2 y => ?_)⟩
          obtain ⟨rfl, V2, p, v, hA2, hB2⟩ := y

          obtain ⟨g1, g2⟩ := lw_ref (K := K) (o := o) (c := c) (C0 := S) hC2 (hR2.sl p (fun x hx => by rcases List.mem_cons.mp hx with h | h; exact Or.inl h; exact Or.inr h) hA2 (by rw [slF_e eR] at hB2; exact hB2)) p (by decide) hr (ks_set_same _ _ _) ho5 (by show o < S0.1; omega) ⟨by show S0.1 ≤ _; omega, by show S0.2.1 ≤ _; omega⟩ r1 r2
          exact ⟨_, V2, _, rfl, p.2.1, v, g1, fun _ => by rw [slM_e eR]; exact va_up_self _ _ _, g2⟩
      · refine ⟨2, fun S1 => ∃ S0, S1 = ks_one S0 ∧ ks_up S S0 [45, 3, 4, 5, 6, 9, 8, 10, 11, 12, 13, 53, 54] ∧ (hsO S0 ∧ (∃ N, tg_ok S0 N) ∧ (∃ ow, bfS S0 5 6 8000 ow) ∧ (∃ od, bfS S0 3 4 1600 od) ∧ (∃ g, kO g ∧ S0.2.2 53 = some (kB 384 g)) ∧ ∃ g, kO g ∧ S0.2.2 54 = some (kB 32 g)), by decide, (hl_seal_no0 (d := 16) htr h0 (t_sealF2 (d := 7) htr hSB h0 hX hDs hr.2.1 hC.1.2.1 hC.2.1.1.1.2.1 hw9 hd9 h53 k53 h54 k54 hC.2.2.1.2.2.2.2.2.2.2 hTg9 kW hr.2.2.1 (fun i hi => by have := (kV i hi).1; omega) (kd q hr.2.2.1) hbx hf) (fun z S1 y => y.1)).mono (fun z S1 y => ⟨y.1, by obtain ⟨_, _, S0, e, u, hb⟩ := y.2; exact ⟨S0, e, u, hb⟩⟩), ?_⟩
        rintro S1 ⟨S0, rfl, u, hb⟩
        have hC0 := hC.up u (by decide) (u.at h0 (by decide)) (hT.ag (u.2.2 _ (by decide)) (u.2.2 _ (by decide))) (Or.inl hb.2.2.2.1) (Or.inl hb.2.2.1) (Or.inr ⟨Or.inl hb.1, by decide⟩) (Or.inr (by decide)) (Or.inl hb.2.1) (Or.inr (by decide)) (Or.inr (by decide)) (by decide) (Or.inl hb.2.2.2.2.1) (Or.inl hb.2.2.2.2.2) (hDs.ex u.ex9 (by decide) (by have := hR.2.2.2.2.2.2.2.2.2.2; omega))
        have hR0 := hR.lo u (by decide) (cq_low hC0)
        have u1 : S0.1 = S.1 := u.1
        have u2 : S0.2.1 = S.2.1 := u.2.1
        have hC1 := hC0.one (by rw [u1]; omega)
        have hR1 := hR0.one (S1 := S) (L := []) (by rw [u1]; omega) (cq_low hC0)
        have ho1 : S0.2.2 o = some (kJ 1 f) := u.at ho (by simp only [List.mem_cons, List.not_mem_nil, or_false]; omega)
        refine ⟨⟨V, hR1.1.1⟩, (r_sealF2 (d := 11) hR1.1.1 hR1.2.2.2.2.2.2.1.1 hR1.2.2.2.2.2.2.1.2 hR1.2.2.2.2.2.2.2.2.1.2.2 hR1.1.as hR1.2.2.2.2.2.2.2.2.1.1 hR1.2.2.1 hr.2.2.1 (kW.eq eR) kH (by rw [(eR q).2.2.1]; have := (kV q hr.2.2.1).1; omega) hR1.1.2.2.2.2.2.2.2.2.2.1 (by rw [dueB_e eR]; exact kd q hr.2.2.1) (by rw [slM_e eR]; exact hf)).mono (fun z S2 y => ?_)⟩
        obtain ⟨rfl, V2, p, v, hA2⟩ := y
        have tp2 := hR1.tp p (by decide) (by decide)
        obtain ⟨g1, g2⟩ := lw_ref (K := K) (o := o) (c := c) (C0 := S) hC1 (hR1.sl (p.mono (fun a h => h) (by decide)) (fun x hx => Or.inr hx) hA2 tp2) p (by decide) hr ho1 ho5 (by show o < S0.1 + 1; omega) ⟨by show S0.1 + 1 ≤ _; omega, by show S0.2.1 + 6 ≤ _; omega⟩ r1 r2
        exact ⟨_, V2, f, rfl, p.2.1, v, g1, fun h => absurd h (by decide), g2⟩
    · by_cases hf : (slM 3 Bc q dt Ds t).length ≤ 1600
      · refine ⟨0, fun S1 => ∃ (S0 : ks_S) (f0 : Nat → Int64), ks_up S S0 [45, 3, 4, 5, 6, 9, 8, 10, 11, 12, 13, 53, 54, 2, 1] ∧ (hsO S0 ∧ (∃ N, tg_ok S0 N) ∧ (∃ ow, bfS S0 5 6 8000 ow) ∧ (∃ od, bfS S0 3 4 1600 od) ∧ (∃ g, kO g ∧ S0.2.2 53 = some (kB 384 g)) ∧ (∃ g, kO g ∧ S0.2.2 54 = some (kB 32 g)) ∧ bfS S0 1 2 1600 (some (slF 3 Bc q dt Ds t))) ∧ S0.2.2 o = some (kJ 1 f0) ∧ S1 = ks_set S0 o (kJ 1 (va_up f0 0 (nI (slM 3 Bc q dt Ds t).length).toInt64)), by decide, (hl_seal_ok (d := 16) htr h0 (c_jd_seal3 (d := 9) h0 hX hT hDs hr.2.1 hC.1.2.1 hC.2.1.1.1.2.1 hw9 hd9 h53 k53 h54 k54 hC.2.2.1.2.2.2.2.2.2.2 hTg9 kW hr.2.2.1 (fun i hi => by have := (kV i hi).1; omega) (kd q hr.2.2.1) hbx hf) (fun z S1 y => ⟨_, f, y.1, y.2.1.at ho (by simp only [List.mem_cons, List.not_mem_nil, or_false]; omega)⟩)).mono (fun z S1 y => ?_), ?_⟩
        · obtain ⟨e, v, S0, f0, ⟨ev, u, hb⟩, y2, y3⟩ := y
          cases ev
          exact ⟨e, S0, f0, u, hb, y2, y3⟩
        · rintro S1 ⟨S0, f0, u, hb, e1, rfl⟩

          have hC1 := hC.up u (T1 := slF 3 Bc q dt Ds t) (by decide) (u.at h0 (by decide)) hb.2.2.2.2.2.2 (Or.inl hb.2.2.2.1) (Or.inl hb.2.2.1) (Or.inr ⟨Or.inl hb.1, by decide⟩) (Or.inr (by decide)) (Or.inl hb.2.1) (Or.inr (by decide)) (Or.inr (by decide)) (by decide) (Or.inl hb.2.2.2.2.1) (Or.inl hb.2.2.2.2.2.1) (hDs.ex u.ex9 (by decide) (by have := hR.2.2.2.2.2.2.2.2.2.2; omega))
          have hR1 := hR.lo u (by decide) (cq_low hC1)
          have hC2 := hC1.out (g := va_up f0 0 (nI (slM 3 Bc q dt Ds t).length).toInt64) e1 ho5
          have hR2 := hR1.out (g := va_up f0 0 (nI (slM 3 Bc q dt Ds t).length).toInt64) e1 ho5 (by rw [u.1]; exact hoS)
          have u1 : S0.1 = S.1 := u.1
          have u2 : S0.2.1 = S.2.1 := u.2.1
          refine ⟨⟨V, hR2.1.1⟩, (c_mr_seal3 (d := 11) hR2.1.1 hR2.2.2.2.2.2.2.2.1 hR2.2.2.2.2.2.2.1.1 hR2.2.2.2.2.2.2.1.2 hR2.2.2.2.2.2.2.2.2.1.2.2 hR2.1.as hR2.2.2.2.2.2.2.2.2.1.1 hR2.2.2.1 hr.2.2.1 (kW.eq eR) kH (by rw [(eR q).2.2.1]; have := (kV q hr.2.2.1).1; omega) hR2.1.2.2.2.2.2.2.2.2.2.1 (by rw [dueB_e eR]; exact kd q hr.2.2.1) (by rw [slM_e eR]; exact hf)).mono (fun z S2 y => ?_)⟩
          obtain ⟨rfl, V2, p, v, hA2, hB2⟩ := y

          obtain ⟨g1, g2⟩ := lw_ref (K := K) (o := o) (c := c) (C0 := S) hC2 (hR2.sl p (fun x hx => by rcases List.mem_cons.mp hx with h | h; exact Or.inl h; exact Or.inr h) hA2 (by rw [slF_e eR] at hB2; exact hB2)) p (by decide) hr (ks_set_same _ _ _) ho5 (by show o < S0.1; omega) ⟨by show S0.1 ≤ _; omega, by show S0.2.1 ≤ _; omega⟩ r1 r2
          exact ⟨_, V2, _, rfl, p.2.1, v, g1, fun _ => by rw [slM_e eR]; exact va_up_self _ _ _, g2⟩
      · refine ⟨2, fun S1 => ∃ S0, S1 = ks_one S0 ∧ ks_up S S0 [45, 3, 4, 5, 6, 9, 8, 10, 11, 12, 13, 53, 54] ∧ (hsO S0 ∧ (∃ N, tg_ok S0 N) ∧ (∃ ow, bfS S0 5 6 8000 ow) ∧ (∃ od, bfS S0 3 4 1600 od) ∧ (∃ g, kO g ∧ S0.2.2 53 = some (kB 384 g)) ∧ ∃ g, kO g ∧ S0.2.2 54 = some (kB 32 g)), by decide, (hl_seal_no0 (d := 16) htr h0 (t_sealF3 (d := 7) htr hSB h0 hX hDs hr.2.1 hC.1.2.1 hC.2.1.1.1.2.1 hw9 hd9 h53 k53 h54 k54 hC.2.2.1.2.2.2.2.2.2.2 hTg9 kW hr.2.2.1 (fun i hi => by have := (kV i hi).1; omega) (kd q hr.2.2.1) hbx hf) (fun z S1 y => y.1)).mono (fun z S1 y => ⟨y.1, by obtain ⟨_, _, S0, e, u, hb⟩ := y.2; exact ⟨S0, e, u, hb⟩⟩), ?_⟩
        rintro S1 ⟨S0, rfl, u, hb⟩
        have hC0 := hC.up u (by decide) (u.at h0 (by decide)) (hT.ag (u.2.2 _ (by decide)) (u.2.2 _ (by decide))) (Or.inl hb.2.2.2.1) (Or.inl hb.2.2.1) (Or.inr ⟨Or.inl hb.1, by decide⟩) (Or.inr (by decide)) (Or.inl hb.2.1) (Or.inr (by decide)) (Or.inr (by decide)) (by decide) (Or.inl hb.2.2.2.2.1) (Or.inl hb.2.2.2.2.2) (hDs.ex u.ex9 (by decide) (by have := hR.2.2.2.2.2.2.2.2.2.2; omega))
        have hR0 := hR.lo u (by decide) (cq_low hC0)
        have u1 : S0.1 = S.1 := u.1
        have u2 : S0.2.1 = S.2.1 := u.2.1
        have hC1 := hC0.one (by rw [u1]; omega)
        have hR1 := hR0.one (S1 := S) (L := []) (by rw [u1]; omega) (cq_low hC0)
        have ho1 : S0.2.2 o = some (kJ 1 f) := u.at ho (by simp only [List.mem_cons, List.not_mem_nil, or_false]; omega)
        refine ⟨⟨V, hR1.1.1⟩, (r_sealF3 (d := 11) hR1.1.1 hR1.2.2.2.2.2.2.1.1 hR1.2.2.2.2.2.2.1.2 hR1.2.2.2.2.2.2.2.2.1.2.2 hR1.1.as hR1.2.2.2.2.2.2.2.2.1.1 hR1.2.2.1 hr.2.2.1 (kW.eq eR) kH (by rw [(eR q).2.2.1]; have := (kV q hr.2.2.1).1; omega) hR1.1.2.2.2.2.2.2.2.2.2.1 (by rw [dueB_e eR]; exact kd q hr.2.2.1) (by rw [slM_e eR]; exact hf)).mono (fun z S2 y => ?_)⟩
        obtain ⟨rfl, V2, p, v, hA2⟩ := y
        have tp2 := hR1.tp p (by decide) (by decide)
        obtain ⟨g1, g2⟩ := lw_ref (K := K) (o := o) (c := c) (C0 := S) hC1 (hR1.sl (p.mono (fun a h => h) (by decide)) (fun x hx => Or.inr hx) hA2 tp2) p (by decide) hr ho1 ho5 (by show o < S0.1 + 1; omega) ⟨by show S0.1 + 1 ≤ _; omega, by show S0.2.1 + 6 ≤ _; omega⟩ r1 r2
        exact ⟨_, V2, f, rfl, p.2.1, v, g1, fun h => absurd h (by decide), g2⟩
    · by_cases hf : (slM 4 Bc q dt Ds t).length ≤ 1600
      · refine ⟨0, fun S1 => ∃ (S0 : ks_S) (f0 : Nat → Int64), ks_up S S0 [45, 3, 4, 5, 6, 9, 8, 10, 11, 12, 13, 53, 54, 2, 1] ∧ (hsO S0 ∧ (∃ N, tg_ok S0 N) ∧ (∃ ow, bfS S0 5 6 8000 ow) ∧ (∃ od, bfS S0 3 4 1600 od) ∧ (∃ g, kO g ∧ S0.2.2 53 = some (kB 384 g)) ∧ (∃ g, kO g ∧ S0.2.2 54 = some (kB 32 g)) ∧ bfS S0 1 2 1600 (some (slF 4 Bc q dt Ds t))) ∧ S0.2.2 o = some (kJ 1 f0) ∧ S1 = ks_set S0 o (kJ 1 (va_up f0 0 (nI (slM 4 Bc q dt Ds t).length).toInt64)), by decide, (hl_seal_ok (d := 16) htr h0 (c_jd_seal4 (d := 9) h0 hX hT hDs hr.2.1 hC.1.2.1 hC.2.1.1.1.2.1 hw9 hd9 h53 k53 h54 k54 hC.2.2.1.2.2.2.2.2.2.2 hTg9 kW hr.2.2.1 (fun i hi => by have := (kV i hi).1; omega) (kd q hr.2.2.1) hbx hf) (fun z S1 y => ⟨_, f, y.1, y.2.1.at ho (by simp only [List.mem_cons, List.not_mem_nil, or_false]; omega)⟩)).mono (fun z S1 y => ?_), ?_⟩
        · obtain ⟨e, v, S0, f0, ⟨ev, u, hb⟩, y2, y3⟩ := y
          cases ev
          exact ⟨e, S0, f0, u, hb, y2, y3⟩
        · rintro S1 ⟨S0, f0, u, hb, e1, rfl⟩

          have hC1 := hC.up u (T1 := slF 4 Bc q dt Ds t) (by decide) (u.at h0 (by decide)) hb.2.2.2.2.2.2 (Or.inl hb.2.2.2.1) (Or.inl hb.2.2.1) (Or.inr ⟨Or.inl hb.1, by decide⟩) (Or.inr (by decide)) (Or.inl hb.2.1) (Or.inr (by decide)) (Or.inr (by decide)) (by decide) (Or.inl hb.2.2.2.2.1) (Or.inl hb.2.2.2.2.2.1) (hDs.ex u.ex9 (by decide) (by have := hR.2.2.2.2.2.2.2.2.2.2; omega))
          have hR1 := hR.lo u (by decide) (cq_low hC1)
          have hC2 := hC1.out (g := va_up f0 0 (nI (slM 4 Bc q dt Ds t).length).toInt64) e1 ho5
          have hR2 := hR1.out (g := va_up f0 0 (nI (slM 4 Bc q dt Ds t).length).toInt64) e1 ho5 (by rw [u.1]; exact hoS)
          have u1 : S0.1 = S.1 := u.1
          have u2 : S0.2.1 = S.2.1 := u.2.1
          refine ⟨⟨V, hR2.1.1⟩, (c_mr_seal4 (d := 11) hR2.1.1 hR2.2.2.2.2.2.2.2.1 hR2.2.2.2.2.2.2.1.1 hR2.2.2.2.2.2.2.1.2 hR2.2.2.2.2.2.2.2.2.1.2.2 hR2.1.as hR2.2.2.2.2.2.2.2.2.1.1 hR2.2.2.1 hr.2.2.1 (kW.eq eR) kH (by rw [(eR q).2.2.1]; have := (kV q hr.2.2.1).1; omega) hR2.1.2.2.2.2.2.2.2.2.2.1 (by rw [dueB_e eR]; exact kd q hr.2.2.1) (by rw [slM_e eR]; exact hf)).mono (fun z S2 y => ?_)⟩
          obtain ⟨rfl, V2, p, v, hA2, hB2⟩ := y

          obtain ⟨g1, g2⟩ := lw_ref (K := K) (o := o) (c := c) (C0 := S) hC2 (hR2.sl p (fun x hx => by rcases List.mem_cons.mp hx with h | h; exact Or.inl h; exact Or.inr h) hA2 (by rw [slF_e eR] at hB2; exact hB2)) p (by decide) hr (ks_set_same _ _ _) ho5 (by show o < S0.1; omega) ⟨by show S0.1 ≤ _; omega, by show S0.2.1 ≤ _; omega⟩ r1 r2
          exact ⟨_, V2, _, rfl, p.2.1, v, g1, fun _ => by rw [slM_e eR]; exact va_up_self _ _ _, g2⟩
      · refine ⟨2, fun S1 => ∃ S0, S1 = ks_one S0 ∧ ks_up S S0 [45, 3, 4, 5, 6, 9, 8, 10, 11, 12, 13, 53, 54] ∧ (hsO S0 ∧ (∃ N, tg_ok S0 N) ∧ (∃ ow, bfS S0 5 6 8000 ow) ∧ (∃ od, bfS S0 3 4 1600 od) ∧ (∃ g, kO g ∧ S0.2.2 53 = some (kB 384 g)) ∧ ∃ g, kO g ∧ S0.2.2 54 = some (kB 32 g)), by decide, (hl_seal_no0 (d := 16) htr h0 (t_sealF4 (d := 7) htr hSB h0 hX hDs hr.2.1 hC.1.2.1 hC.2.1.1.1.2.1 hw9 hd9 h53 k53 h54 k54 hC.2.2.1.2.2.2.2.2.2.2 hTg9 kW hr.2.2.1 (fun i hi => by have := (kV i hi).1; omega) (kd q hr.2.2.1) hbx hf) (fun z S1 y => y.1)).mono (fun z S1 y => ⟨y.1, by obtain ⟨_, _, S0, e, u, hb⟩ := y.2; exact ⟨S0, e, u, hb⟩⟩), ?_⟩
        rintro S1 ⟨S0, rfl, u, hb⟩
        have hC0 := hC.up u (by decide) (u.at h0 (by decide)) (hT.ag (u.2.2 _ (by decide)) (u.2.2 _ (by decide))) (Or.inl hb.2.2.2.1) (Or.inl hb.2.2.1) (Or.inr ⟨Or.inl hb.1, by decide⟩) (Or.inr (by decide)) (Or.inl hb.2.1) (Or.inr (by decide)) (Or.inr (by decide)) (by decide) (Or.inl hb.2.2.2.2.1) (Or.inl hb.2.2.2.2.2) (hDs.ex u.ex9 (by decide) (by have := hR.2.2.2.2.2.2.2.2.2.2; omega))
        have hR0 := hR.lo u (by decide) (cq_low hC0)
        have u1 : S0.1 = S.1 := u.1
        have u2 : S0.2.1 = S.2.1 := u.2.1
        have hC1 := hC0.one (by rw [u1]; omega)
        have hR1 := hR0.one (S1 := S) (L := []) (by rw [u1]; omega) (cq_low hC0)
        have ho1 : S0.2.2 o = some (kJ 1 f) := u.at ho (by simp only [List.mem_cons, List.not_mem_nil, or_false]; omega)
        refine ⟨⟨V, hR1.1.1⟩, (r_sealF4 (d := 11) hR1.1.1 hR1.2.2.2.2.2.2.1.1 hR1.2.2.2.2.2.2.1.2 hR1.2.2.2.2.2.2.2.2.1.2.2 hR1.1.as hR1.2.2.2.2.2.2.2.2.1.1 hR1.2.2.1 hr.2.2.1 (kW.eq eR) kH (by rw [(eR q).2.2.1]; have := (kV q hr.2.2.1).1; omega) hR1.1.2.2.2.2.2.2.2.2.2.1 (by rw [dueB_e eR]; exact kd q hr.2.2.1) (by rw [slM_e eR]; exact hf)).mono (fun z S2 y => ?_)⟩
        obtain ⟨rfl, V2, p, v, hA2⟩ := y
        have tp2 := hR1.tp p (by decide) (by decide)
        obtain ⟨g1, g2⟩ := lw_ref (K := K) (o := o) (c := c) (C0 := S) hC1 (hR1.sl (p.mono (fun a h => h) (by decide)) (fun x hx => Or.inr hx) hA2 tp2) p (by decide) hr ho1 ho5 (by show o < S0.1 + 1; omega) ⟨by show S0.1 + 1 ≤ _; omega, by show S0.2.1 + 6 ≤ _; omega⟩ r1 r2
        exact ⟨_, V2, f, rfl, p.2.1, v, g1, fun h => absurd h (by decide), g2⟩
    · by_cases hf : (slM 5 Bc q dt Ds t).length ≤ 1600
      · refine ⟨0, fun S1 => ∃ (S0 : ks_S) (f0 : Nat → Int64), ks_up S S0 [45, 3, 4, 5, 6, 9, 8, 10, 11, 12, 13, 53, 54, 2, 1] ∧ (hsO S0 ∧ (∃ N, tg_ok S0 N) ∧ (∃ ow, bfS S0 5 6 8000 ow) ∧ (∃ od, bfS S0 3 4 1600 od) ∧ (∃ g, kO g ∧ S0.2.2 53 = some (kB 384 g)) ∧ (∃ g, kO g ∧ S0.2.2 54 = some (kB 32 g)) ∧ bfS S0 1 2 1600 (some (slF 5 Bc q dt Ds t))) ∧ S0.2.2 o = some (kJ 1 f0) ∧ S1 = ks_set S0 o (kJ 1 (va_up f0 0 (nI (slM 5 Bc q dt Ds t).length).toInt64)), by decide, (hl_seal_ok (d := 16) htr h0 (c_jd_seal5 (d := 9) h0 hX hT hDs hr.2.1 hC.1.2.1 hC.2.1.1.1.2.1 hw9 hd9 h53 k53 h54 k54 hC.2.2.1.2.2.2.2.2.2.2 hTg9 kW hr.2.2.1 (fun i hi => by have := (kV i hi).1; omega) (kd q hr.2.2.1) hbx hf) (fun z S1 y => ⟨_, f, y.1, y.2.1.at ho (by simp only [List.mem_cons, List.not_mem_nil, or_false]; omega)⟩)).mono (fun z S1 y => ?_), ?_⟩
        · obtain ⟨e, v, S0, f0, ⟨ev, u, hb⟩, y2, y3⟩ := y
          cases ev
          exact ⟨e, S0, f0, u, hb, y2, y3⟩
        · rintro S1 ⟨S0, f0, u, hb, e1, rfl⟩

          have hC1 := hC.up u (T1 := slF 5 Bc q dt Ds t) (by decide) (u.at h0 (by decide)) hb.2.2.2.2.2.2 (Or.inl hb.2.2.2.1) (Or.inl hb.2.2.1) (Or.inr ⟨Or.inl hb.1, by decide⟩) (Or.inr (by decide)) (Or.inl hb.2.1) (Or.inr (by decide)) (Or.inr (by decide)) (by decide) (Or.inl hb.2.2.2.2.1) (Or.inl hb.2.2.2.2.2.1) (hDs.ex u.ex9 (by decide) (by have := hR.2.2.2.2.2.2.2.2.2.2; omega))
          have hR1 := hR.lo u (by decide) (cq_low hC1)
          have hC2 := hC1.out (g := va_up f0 0 (nI (slM 5 Bc q dt Ds t).length).toInt64) e1 ho5
          have hR2 := hR1.out (g := va_up f0 0 (nI (slM 5 Bc q dt Ds t).length).toInt64) e1 ho5 (by rw [u.1]; exact hoS)
          have u1 : S0.1 = S.1 := u.1
          have u2 : S0.2.1 = S.2.1 := u.2.1
          refine ⟨⟨V, hR2.1.1⟩, (c_mr_seal5 (d := 11) hR2.1.1 hR2.2.2.2.2.2.2.2.1 hR2.2.2.2.2.2.2.1.1 hR2.2.2.2.2.2.2.1.2 hR2.2.2.2.2.2.2.2.2.1.2.2 hR2.1.as hR2.2.2.2.2.2.2.2.2.1.1 hR2.2.2.1 hr.2.2.1 (kW.eq eR) kH (by rw [(eR q).2.2.1]; have := (kV q hr.2.2.1).1; omega) hR2.1.2.2.2.2.2.2.2.2.2.1 (by rw [dueB_e eR]; exact kd q hr.2.2.1) (by rw [slM_e eR]; exact hf)).mono (fun z S2 y => ?_)⟩
          obtain ⟨rfl, V2, p, v, hA2, hB2⟩ := y

          obtain ⟨g1, g2⟩ := lw_ref (K := K) (o := o) (c := c) (C0 := S) hC2 (hR2.sl p (fun x hx => by rcases List.mem_cons.mp hx with h | h; exact Or.inl h; exact Or.inr h) hA2 (by rw [slF_e eR] at hB2; exact hB2)) p (by decide) hr (ks_set_same _ _ _) ho5 (by show o < S0.1; omega) ⟨by show S0.1 ≤ _; omega, by show S0.2.1 ≤ _; omega⟩ r1 r2
          exact ⟨_, V2, _, rfl, p.2.1, v, g1, fun _ => by rw [slM_e eR]; exact va_up_self _ _ _, g2⟩
      · refine ⟨2, fun S1 => ∃ S0, S1 = ks_one S0 ∧ ks_up S S0 [45, 3, 4, 5, 6, 9, 8, 10, 11, 12, 13, 53, 54] ∧ (hsO S0 ∧ (∃ N, tg_ok S0 N) ∧ (∃ ow, bfS S0 5 6 8000 ow) ∧ (∃ od, bfS S0 3 4 1600 od) ∧ (∃ g, kO g ∧ S0.2.2 53 = some (kB 384 g)) ∧ ∃ g, kO g ∧ S0.2.2 54 = some (kB 32 g)), by decide, (hl_seal_no0 (d := 16) htr h0 (t_sealF5 (d := 7) htr hSB h0 hX hDs hr.2.1 hC.1.2.1 hC.2.1.1.1.2.1 hw9 hd9 h53 k53 h54 k54 hC.2.2.1.2.2.2.2.2.2.2 hTg9 kW hr.2.2.1 (fun i hi => by have := (kV i hi).1; omega) (kd q hr.2.2.1) hbx hf) (fun z S1 y => y.1)).mono (fun z S1 y => ⟨y.1, by obtain ⟨_, _, S0, e, u, hb⟩ := y.2; exact ⟨S0, e, u, hb⟩⟩), ?_⟩
        rintro S1 ⟨S0, rfl, u, hb⟩
        have hC0 := hC.up u (by decide) (u.at h0 (by decide)) (hT.ag (u.2.2 _ (by decide)) (u.2.2 _ (by decide))) (Or.inl hb.2.2.2.1) (Or.inl hb.2.2.1) (Or.inr ⟨Or.inl hb.1, by decide⟩) (Or.inr (by decide)) (Or.inl hb.2.1) (Or.inr (by decide)) (Or.inr (by decide)) (by decide) (Or.inl hb.2.2.2.2.1) (Or.inl hb.2.2.2.2.2) (hDs.ex u.ex9 (by decide) (by have := hR.2.2.2.2.2.2.2.2.2.2; omega))
        have hR0 := hR.lo u (by decide) (cq_low hC0)
        have u1 : S0.1 = S.1 := u.1
        have u2 : S0.2.1 = S.2.1 := u.2.1
        have hC1 := hC0.one (by rw [u1]; omega)
        have hR1 := hR0.one (S1 := S) (L := []) (by rw [u1]; omega) (cq_low hC0)
        have ho1 : S0.2.2 o = some (kJ 1 f) := u.at ho (by simp only [List.mem_cons, List.not_mem_nil, or_false]; omega)
        refine ⟨⟨V, hR1.1.1⟩, (r_sealF5 (d := 11) hR1.1.1 hR1.2.2.2.2.2.2.1.1 hR1.2.2.2.2.2.2.1.2 hR1.2.2.2.2.2.2.2.2.1.2.2 hR1.1.as hR1.2.2.2.2.2.2.2.2.1.1 hR1.2.2.1 hr.2.2.1 (kW.eq eR) kH (by rw [(eR q).2.2.1]; have := (kV q hr.2.2.1).1; omega) hR1.1.2.2.2.2.2.2.2.2.2.1 (by rw [dueB_e eR]; exact kd q hr.2.2.1) (by rw [slM_e eR]; exact hf)).mono (fun z S2 y => ?_)⟩
        obtain ⟨rfl, V2, p, v, hA2⟩ := y
        have tp2 := hR1.tp p (by decide) (by decide)
        obtain ⟨g1, g2⟩ := lw_ref (K := K) (o := o) (c := c) (C0 := S) hC1 (hR1.sl (p.mono (fun a h => h) (by decide)) (fun x hx => Or.inr hx) hA2 tp2) p (by decide) hr ho1 ho5 (by show o < S0.1 + 1; omega) ⟨by show S0.1 + 1 ≤ _; omega, by show S0.2.1 + 6 ≤ _; omega⟩ r1 r2
        exact ⟨_, V2, f, rfl, p.2.1, v, g1, fun h => absurd h (by decide), g2⟩
  · refine ⟨1, fun S1 => S1 = ks_one S, by decide, (hl_seal_no1 (d := 16) htr h0 (t_seal (d := 7) htr hSB h0 hx) (fun z S1 y => y.1)).mono (fun z S1 y => ⟨y.1, by obtain ⟨_, _, e⟩ := y.2; exact e⟩), ?_⟩
    rintro S1 rfl
    have hC1 := hC.one (by omega)
    have hR1 := hR.one (S1 := S) (L := []) (by omega) (cq_low hC)
    refine ⟨⟨V, hR1.1.1⟩, (r_seal (d := 16) hR1.1.1 hx).mono (fun z S2 y => ?_)⟩
    obtain ⟨rfl, V2, p, v⟩ := y
    obtain ⟨g1, g2⟩ := lw_ref (K := K) (o := o) (c := c) (C0 := S) hC1 (hR1.no p (by decide)) p (fun x hx => by cases hx) hr ho ho5 (Nat.lt_succ_of_lt hoS) ⟨Nat.le_refl _, Nat.le_refl _⟩ r1 r2
    exact ⟨_, V2, f, rfl, p.2.1, v, g1, fun h => absurd h (by decide), g2⟩
set_option maxRecDepth 100000 in
set_option maxHeartbeats 800000 in
theorem op_coin {l : Launch} {G : ks_G} {K : lwK} {o c : Nat} {S : ks_S} (htr : l.stackTraces = false) (hc : c ≤ 512) {x : Int32} {y : Int32} {ix : Int32} (hKC : lwKC K) (hI : lwI K o c S) : opJ l G K o c yL_coin mL_coin hL_coin yX16_coin mX16_coin [.int x, .int y, .int ix] S := by
  obtain ⟨n, best, Bc, Br, C, R, t, q, dt, rs, Ds, D, T, V, F, hC, hR, hr, ⟨⟨f, ho⟩, ho5, hoS⟩, r1, r2⟩ := hI
  have h0 := hC.1.1
  have hT := hC.1.2.2.1
  have hDs := hC.2.2.2.1
  have hB9 := lw_B
  have hSB : S.1 < ks_B := hC.2.2.2.2.2.2.1.2.1
  have hn60 : n ≤ 60 := by
    obtain ⟨cc, tk, hX⟩ := hC.2.2.2.2.1
    exact hX.2.2.2
  have hS9 : S.1 + F + 50 < ks_B := by omega
  obtain ⟨cc, tk, hX⟩ := hC.2.2.2.2.1
  have eR := hr.2.2.2.1
  obtain ⟨r, L, hL1, hL2, -, hL4⟩ := hKC n best Bc Br C hr.2.2.2.2.2
  by_cases hx : x < 0
  · refine ⟨1, fun S1 => S1 = ks_one S, by decide, (hl_coin_no1 (d := 16) htr h0 (t_coinN (d := 7) htr hSB h0 hX hx) (fun z S1 y => y.1)).mono (fun z S1 y => ⟨y.1, by obtain ⟨_, _, e⟩ := y.2; exact e⟩), ?_⟩
    rintro S1 rfl
    have hC1 := hC.one (by omega)
    have hR1 := hR.one (S1 := S) (L := []) (by omega) (cq_low hC)
    obtain ⟨f342, e342, hf342⟩ := hR1.2.2.2.2.1.1
    refine ⟨⟨V, hR1.1.1⟩, (r_coinN (d := 16) hR1.1.1 hR1.2.2.2.1.1 hR1.2.2.1 e342 hR1.2.2.2.2.1.2.1 hf342 (by have := hR1.2.2.2.2.1.2.2.1; omega) hR1.2.2.2.2.1.2.2.2 hx).mono (fun z S2 y => ?_)⟩
    obtain ⟨rfl, V2, p, v⟩ := y
    obtain ⟨g1, g2⟩ := lw_ref (K := K) (o := o) (c := c) (C0 := S) hC1 (hR1.no p (by decide)) p (fun x hx => by cases hx) hr ho ho5 (Nat.lt_succ_of_lt hoS) ⟨Nat.le_refl _, Nat.le_refl _⟩ r1 r2
    exact ⟨_, V2, f, rfl, p.2.1, v, g1, fun h => absurd h (by decide), g2⟩
  by_cases hyn : y < 0 ∨ nI n ≤ x
  · refine ⟨1, fun S1 => S1 = ks_one S, by decide, (hl_coin_no1 (d := 16) htr h0 (t_coinO (d := 7) htr hSB h0 hX hyn) (fun z S1 y => y.1)).mono (fun z S1 y => ⟨y.1, by obtain ⟨_, _, e⟩ := y.2; exact e⟩), ?_⟩
    rintro S1 rfl
    have hC1 := hC.one (by omega)
    have hR1 := hR.one (S1 := S) (L := []) (by omega) (cq_low hC)
    obtain ⟨f342, e342, hf342⟩ := hR1.2.2.2.2.1.1
    refine ⟨⟨V, hR1.1.1⟩, (r_coinO (d := 16) hR1.1.1 hR1.2.2.2.1.1 hR1.2.2.1 e342 hR1.2.2.2.2.1.2.1 hf342 (by have := hR1.2.2.2.2.1.2.2.1; omega) hR1.2.2.2.2.1.2.2.2 hyn).mono (fun z S2 y => ?_)⟩
    obtain ⟨rfl, V2, p, v⟩ := y
    obtain ⟨g1, g2⟩ := lw_ref (K := K) (o := o) (c := c) (C0 := S) hC1 (hR1.no p (by decide)) p (fun x hx => by cases hx) hr ho ho5 (Nat.lt_succ_of_lt hoS) ⟨Nat.le_refl _, Nat.le_refl _⟩ r1 r2
    exact ⟨_, V2, f, rfl, p.2.1, v, g1, fun h => absurd h (by decide), g2⟩
  obtain ⟨k, hk9, rfl⟩ := nI_dec hx
  obtain ⟨tt, ht9, rfl⟩ := nI_dec (fun h => hyn (Or.inl h))
  have hk : k < n := by
    have h2 : ¬ nI n ≤ nI k := fun h => hyn (Or.inr h)
    rw [nI_le9 (by omega) hk9] at h2
    omega
  have eM := (eR k).1
  obtain ⟨xn, hxn, ex⟩ := nI_any ix
  by_cases ht : tt < mg (bkM (Bc k)) 80
  · refine ⟨0, fun S1 => S1 = ks_set S o (kJ 1 (va_up f 0 (if plD (fun i => cnIs Bc ix (idB (bkM (Bc k)) tt) (L.getD i 0)) L.length 0 = 0 then (-1 : Int64) else lN (cnV Bc (L.getD (plD (fun i => cnIs Bc ix (idB (bkM (Bc k)) tt) (L.getD i 0)) L.length 0 - 1) 0))))), by decide, (hl_coin_ok (d := 16) htr h0 (c_jd_coin (d := 13) h0 hX hr.1 hL1 hL2 hk ht) (fun z S1 y => ⟨_, f, y.1, by rw [y.2]; exact ho⟩)).mono (fun z S1 y => ?_), ?_⟩
    · obtain ⟨e, v, S0, f0, ⟨ev, e0⟩, y2, y3⟩ := y
      cases ev
      subst e0
      have ef : f0 = f := by
        rw [ho] at y2
        cases y2
        rfl
      rw [ef] at y3
      exact ⟨e, y3⟩
    · rintro S1 rfl

      have hC2 := hC.out (g := va_up f 0 (if plD (fun i => cnIs Bc ix (idB (bkM (Bc k)) tt) (L.getD i 0)) L.length 0 = 0 then (-1 : Int64) else lN (cnV Bc (L.getD (plD (fun i => cnIs Bc ix (idB (bkM (Bc k)) tt) (L.getD i 0)) L.length 0 - 1) 0)))) ho ho5
      have hR2 := hR.out (g := va_up f 0 (if plD (fun i => cnIs Bc ix (idB (bkM (Bc k)) tt) (L.getD i 0)) L.length 0 = 0 then (-1 : Int64) else lN (cnV Bc (L.getD (plD (fun i => cnIs Bc ix (idB (bkM (Bc k)) tt) (L.getD i 0)) L.length 0 - 1) 0)))) ho ho5 hoS
      obtain ⟨f342, e342, hf342⟩ := hR2.2.2.2.2.1.1
      refine ⟨⟨V, hR2.1.1⟩, (c_mr_coin (d := 13) hR2.1.1 hR2.2.2.2.1.1 hR2.2.2.1 e342 hR2.2.2.2.2.1.2.1 hf342 (by have := hR2.2.2.2.2.1.2.2.1; omega) hR2.2.2.2.2.1.2.2.2 ex hxn hk (by rw [eM]; exact ht)).mono (fun z S2 y => ?_)⟩
      obtain ⟨rfl, V2, p, v⟩ := y
      obtain ⟨g1, g2⟩ := lw_ref (K := K) (o := o) (c := c) (C0 := S) hC2 (hR2.no p (by decide)) p (fun x hx => by cases hx) hr (ks_set_same _ _ _) ho5 hoS ⟨Nat.le_succ _, by show S.2.1 ≤ _; omega⟩ r1 r2
      exact ⟨_, V2, _, rfl, p.2.1, v, g1, fun _ => by rw [← hL4 k tt xn ix hk ht ex hxn]; exact va_up_self _ _ _, g2⟩
  · refine ⟨1, fun S1 => S1 = ks_one S, by decide, (hl_coin_no1 (d := 16) htr h0 (t_coinT (d := 7) htr hSB h0 hX hk ht9 ht) (fun z S1 y => y.1)).mono (fun z S1 y => ⟨y.1, by obtain ⟨_, _, e⟩ := y.2; exact e⟩), ?_⟩
    rintro S1 rfl
    have hC1 := hC.one (by omega)
    have hR1 := hR.one (S1 := S) (L := []) (by omega) (cq_low hC)
    obtain ⟨f342, e342, hf342⟩ := hR1.2.2.2.2.1.1
    refine ⟨⟨V, hR1.1.1⟩, (r_coinT (d := 16) hR1.1.1 hR1.2.2.2.1.1 hR1.2.2.1 e342 hR1.2.2.2.2.1.2.1 hf342 (by have := hR1.2.2.2.2.1.2.2.1; omega) hR1.2.2.2.2.1.2.2.2 hk ht9 (by rw [eM]; exact ht)).mono (fun z S2 y => ?_)⟩
    obtain ⟨rfl, V2, p, v⟩ := y
    obtain ⟨g1, g2⟩ := lw_ref (K := K) (o := o) (c := c) (C0 := S) hC1 (hR1.no p (by decide)) p (fun x hx => by cases hx) hr ho ho5 (Nat.lt_succ_of_lt hoS) ⟨Nat.le_refl _, Nat.le_refl _⟩ r1 r2
    exact ⟨_, V2, f, rfl, p.2.1, v, g1, fun h => absurd h (by decide), g2⟩
