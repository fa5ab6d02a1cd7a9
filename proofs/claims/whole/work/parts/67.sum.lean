/-! CURVE: multiples, sums -/
def nN : Nat := 115792089237316195423570985008687907852837564279074904382605163141518161494337
/-- a point in three numbers -/
abbrev Pt : Type := Nat × Nat × Nat
def ptR (R : Nat → Nat) (o : Nat) : Pt := (R o, R (o + 1), R (o + 2))
def ptL (P : Pt) : Prop := P.1 < pP ∧ P.2.1 < pP ∧ P.2.2 < pP
def ptD (P : Pt) : Pt := (dbX P.1 P.2.1, dbY P.1 P.2.1, dbZ P.2.1 P.2.2)
def ptH (P Q : Pt) : Nat := adH P.1 P.2.2 Q.1 Q.2.2
def ptK (P Q : Pt) : Nat := adR P.2.1 P.2.2 Q.2.1 Q.2.2
/-- the sum as addPoints makes it; o is what stands there before -/
def ptO (P Q o : Pt) : Pt := if P.2.2 = 0 then Q else if ptH P Q = 0 ∧ ptK P Q = 0 then o else (adX (adU P.1 Q.2.2) (ptH P Q) (ptK P Q), adY (adU P.1 Q.2.2) (adV P.2.1 Q.2.2) (ptH P Q) (ptK P Q), adZ P.2.2 Q.2.2 (ptH P Q))
def ptB (P Q : Pt) : Bool := decide (P.2.2 = 0) || !decide (ptH P Q = 0 ∧ ptK P Q = 0)
def ptS (P Q : Pt) : Pt := if ptB P Q then ptO P Q P else ptD P
theorem ptD_L (P : Pt) : ptL (ptD P) := ⟨sM_lt _ _, sM_lt _ _, aM_lt _ _⟩
theorem ptO_L {P Q o : Pt} (hQ : ptL Q) (ho : ptL o) : ptL (ptO P Q o) := by
  unfold ptO
  split
  · exact hQ
  · split
    · exact ho
    · exact ⟨sM_lt _ _, sM_lt _ _, mM_lt _ _⟩
theorem ptS_L {P Q : Pt} (hP : ptL P) (hQ : ptL Q) : ptL (ptS P Q) := by
  unfold ptS
  split
  · exact ptO_L hQ hP
  · exact ptD_L P
/-- all registers from 6 on but those of the point at o stay -/
def cvK (R R2 : Nat → Nat) (o : Nat) : Prop := ∀ j, 6 ≤ j → j ≠ o → j ≠ o + 1 → j ≠ o + 2 → R2 j = R j
theorem cvK.pt {R R2 : Nat → Nat} {o q : Nat} (h : cvK R R2 o) (h6 : 6 ≤ q) (hq : q + 3 ≤ o ∨ o + 3 ≤ q) : ptR R2 q = ptR R q := by
  unfold ptR
  rw [h q h6 (by omega) (by omega) (by omega), h (q + 1) (by omega) (by omega) (by omega) (by omega), h (q + 2) (by omega) (by omega) (by omega) (by omega)]
theorem c_cvD {l : Launch} {G : ks_G} {d : Nat} {S : ks_S} {R : Nat → Nat} {ir : Bool} {o p : Nat} (hC : cvX S ir R) (ho6 : 6 ≤ o) (ho : o + 3 ≤ 100) (hp6 : 6 ≤ p) (hp : p + 3 ≤ 100) (hL : ptL (ptR R p)) : ks_P l G yX3_doublePoint mX3_doublePoint (d + 1) [.ref 14, .int (nI (9 * o)), .int (nI (9 * p))] S (fun z S' => z = none ∧ ks_up S S' [16] ∧ ∃ R2, cvX S' ir R2 ∧ ptR R2 o = ptD (ptR R p) ∧ cvK R R2 o) :=
  (c_cv_doublePoint hC ho6 ho hp6 hp hL.1 hL.2.1 hL.2.2).mono (fun z S' hq => by
    obtain ⟨h1, h2, R2, h3, h4, h5, h6, h7⟩ := hq
    refine ⟨h1, h2, R2, h3, ?_, h7⟩
    unfold ptR
    rw [h4, h5, h6]
    rfl)
theorem c_cvA {l : Launch} {G : ks_G} {d : Nat} {S : ks_S} {R : Nat → Nat} {ir : Bool} {o p q : Nat} (hC : cvX S ir R) (ho6 : 6 ≤ o) (ho : o + 3 ≤ 100) (hp6 : 6 ≤ p) (hp : p + 3 ≤ 100) (hq6 : 6 ≤ q) (hq : q + 3 ≤ 100) (hP : ptL (ptR R p)) (hQ : ptL (ptR R q)) : ks_P l G yX3_addPoints mX3_addPoints (d + 2) [.ref 14, .int (nI (9 * o)), .int (nI (9 * p)), .int (nI (9 * q))] S (fun z S' => z = some (.int (ks_bo (ptB (ptR R p) (ptR R q)))) ∧ ks_up S S' [16] ∧ ∃ R2, cvX S' ir R2 ∧ ptR R2 o = ptO (ptR R p) (ptR R q) (ptR R o) ∧ cvK R R2 o) :=
  (c_cv_addPoints hC ho6 ho hp6 hp hq6 hq hP.1 hP.2.1 hP.2.2 hQ.1 hQ.2.1 hQ.2.2).mono (fun z S' hz => by
    obtain ⟨h2, R2, h3, h7, h8⟩ := hz
    have e0 : (ptR R p).2.2 = R (p + 2) := rfl
    have e1 : ptH (ptR R p) (ptR R q) = adH (R p) (R (p + 2)) (R q) (R (q + 2)) := rfl
    have e2 : ptK (ptR R p) (ptR R q) = adR (R (p + 1)) (R (p + 2)) (R (q + 1)) (R (q + 2)) := rfl
    by_cases c : R (p + 2) = 0
    · rw [if_pos c] at h8
      obtain ⟨h9, a1, a2, a3⟩ := h8
      refine ⟨?_, h2, R2, h3, ?_, h7⟩
      · rw [h9]; unfold ptB; rw [e0, decide_eq_true c, Bool.true_or]
      · unfold ptO; rw [e0, if_pos c]; unfold ptR; rw [a1, a2, a3]
    · rw [if_neg c] at h8
      by_cases c2 : adH (R p) (R (p + 2)) (R q) (R (q + 2)) = 0 ∧ adR (R (p + 1)) (R (p + 2)) (R (q + 1)) (R (q + 2)) = 0
      · rw [if_pos c2] at h8
        obtain ⟨h9, a1, a2, a3⟩ := h8
        refine ⟨?_, h2, R2, h3, ?_, h7⟩
        · rw [h9]; unfold ptB; rw [e0, e1, e2, decide_eq_false c, decide_eq_true c2]; rfl
        · unfold ptO; rw [e0, e1, e2, if_neg c, if_pos c2]; unfold ptR; rw [a1, a2, a3]
      · rw [if_neg c2] at h8
        obtain ⟨h9, a1, a2, a3⟩ := h8
        refine ⟨?_, h2, R2, h3, ?_, h7⟩
        · rw [h9]; unfold ptB; rw [e0, e1, e2, decide_eq_false c, decide_eq_false c2]; rfl
        · unfold ptO; rw [e0, e1, e2, if_neg c, if_neg c2]; unfold ptR; rw [a1, a2, a3])
/-- one to fifteen times a point, with what stood there before -/
def mlT (R : Nat → Nat) (f : Nat) : Nat → Pt
  | 0 => ptR R f
  | 1 => ptD (ptR R f)
  | i + 2 => ptO (mlT R f (i + 1)) (ptR R f) (ptR R (f + 3 * (i + 2)))
theorem mlT_L {R : Nat → Nat} {f : Nat} (h : ∀ i, i < 15 → ptL (ptR R (f + 3 * i))) : ∀ i, i < 15 → ptL (mlT R f i)
  | 0, _ => h 0 (by decide)
  | 1, _ => ptD_L _
  | i + 2, hi => ptO_L (h 0 (by decide)) (h (i + 2) hi)
set_option maxRecDepth 100000 in
set_option maxHeartbeats 2000000 in
theorem c_cv_fillMultiples {l : Launch} {G : ks_G} {d : Nat} {S : ks_S} {R : Nat → Nat} {ir : Bool} {f : Nat} (hC : cvX S ir R) (hf6 : 6 ≤ f) (hf : f + 45 ≤ 100) (hL : ∀ i, i < 15 → ptL (ptR R (f + 3 * i))) : ks_P l G yX3_fillMultiples mX3_fillMultiples (d + 3) [.ref 14, .int (nI (9 * f))] S (fun z S' => z = none ∧ ks_up S S' [16] ∧ ∃ R2, cvX S' ir R2 ∧ (∀ i, i < 15 → ptR R2 (f + 3 * i) = mlT R f i) ∧ (∀ j, 6 ≤ j → j < f ∨ f + 45 ≤ j → R2 j = R j)) := by
  have loop : ∀ c i (S1 : ks_S) (R1 : Nat → Nat), i + c = 15 → 2 ≤ i → ks_up S S1 [16] → cvX S1 ir R1 → (∀ k, k < i → ptR R1 (f + 3 * k) = mlT R f k) → (∀ k, i ≤ k → k < 15 → ptR R1 (f + 3 * k) = ptR R (f + 3 * k)) → (∀ j, 6 ≤ j → j < f ∨ f + 45 ≤ j → R1 j = R j) → ks_X l G mX3_fillMultiples (d + 3) 11 [(0, .ref 14), (1, .int (nI (9 * f))), (2, .int (nI i))] [] S1 (fun z S' => z = none ∧ ks_up S S' [16] ∧ ∃ R2, cvX S' ir R2 ∧ (∀ i, i < 15 → ptR R2 (f + 3 * i) = mlT R f i) ∧ (∀ j, 6 ≤ j → j < f ∨ f + 45 ≤ j → R2 j = R j)) := by
    intro c
    induction c with
    | zero =>
      intro i S1 R1 hi h2 hu hC1 hk hk2 ho
      refine ks_iload_n dX3_fillMultiples_11 rfl rfl ?_
      refine ks_bipush (x := nI 15) dX3_fillMultiples_12 (by decide) rfl ?_
      refine ks_icmp_geN (tgt := 43) (by omega) (by decide) dX3_fillMultiples_14 (by decide) rfl (fun h1 => ?_) (fun h1 => ?_)
      · refine ks_ret rfl dX3_fillMultiples_43 ?_
        obtain rfl : i = 15 := by omega
        exact ⟨rfl, hu, R1, hC1, hk, ho⟩
      · omega
    | succ c ih =>
      intro i S1 R1 hi h2 hu hC1 hk hk2 ho
      refine ks_iload_n dX3_fillMultiples_11 rfl rfl ?_
      refine ks_bipush (x := nI 15) dX3_fillMultiples_12 (by decide) rfl ?_
      refine ks_icmp_geN (tgt := 43) (by omega) (by decide) dX3_fillMultiples_14 (by decide) rfl (fun h1 => ?_) (fun h1 => ?_)
      · omega
      · obtain ⟨m, rfl⟩ : ∃ m, i = m + 2 := ⟨i - 2, by omega⟩
        refine ks_aload_n dX3_fillMultiples_17 rfl rfl ?_
        refine ks_iload_n dX3_fillMultiples_18 rfl rfl ?_
        refine ks_bipush (x := nI 27) dX3_fillMultiples_19 (by decide) rfl ?_
        refine ks_iload_n dX3_fillMultiples_21 rfl rfl ?_
        refine ks_mulN dX3_fillMultiples_22 rfl ?_
        refine ks_addN dX3_fillMultiples_23 rfl ?_
        refine ks_iload_n dX3_fillMultiples_24 rfl rfl ?_
        refine ks_bipush (x := nI 27) dX3_fillMultiples_25 (by decide) rfl ?_
        refine ks_iload_n dX3_fillMultiples_27 rfl rfl ?_
        refine ks_iconst (x := nI 1) dX3_fillMultiples_28 (by decide) rfl ?_
        refine ks_subN (by omega) dX3_fillMultiples_29 rfl ?_
        refine ks_mulN dX3_fillMultiples_30 rfl ?_
        refine ks_addN dX3_fillMultiples_31 rfl ?_
        refine ks_iload_n dX3_fillMultiples_32 rfl rfl ?_
        have p0 := hk (m + 1) (by omega)
        have p1 := hk 0 (by omega)
        have p2 := hk2 (m + 2) (Nat.le_refl _) (by omega)
        have L0 := mlT_L hL (m + 1) (by omega)
        have L1 := hL 0 (by decide)
        rw [← p0] at L0
        rw [show f + 3 * 0 = f from rfl] at p1 L1
        rw [show mlT R f 0 = ptR R f from rfl] at p1
        rw [← p1] at L1
        have ea : 9 * f + 27 * (m + 2) = 9 * (f + 3 * (m + 2)) := by omega
        have eb : 9 * f + 27 * (m + 2 - 1) = 9 * (f + 3 * (m + 1)) := by omega
        rw [ea, eb]
        refine ks_callV (n := 3) (M' := mX3_addPoints) (c_cvA (d := d) (o := f + 3 * (m + 2)) (p := f + 3 * (m + 1)) (q := f) hC1 (by omega) (by omega) (by omega) (by omega) hf6 (by omega) L0 L1) hC1.1 cl_X3 rfl kx_522 kx_524 kxp_3 kx_4 kx_525 (by decide +kernel) rfl (by decide) (Nat.le_of_ble_eq_true rfl) rfl dX3_fillMultiples_33 rfl (fun z1 T1 y1 => ?_)
        obtain ⟨rfl, u1, R2, C2, hP, hK⟩ := y1
        rw [p0, p1, p2] at hP
        refine ks_pop dX3_fillMultiples_36 rfl rfl ?_
        refine ks_incN (c := 1) (e := m + 2 + 1) dX3_fillMultiples_37 rfl (by decide) rfl (by decide) rfl ?_
        refine ks_sub [(2, _), (0, _), (1, _)] rfl ?_
        refine ks_goto (tgt := 11) dX3_fillMultiples_40 (by decide) ?_
        refine ks_sub [(0, _), (1, _), (2, _)] rfl (ih (m + 2 + 1) _ R2 (by omega) (by omega) (hu.trans u1) C2 ?_ ?_ ?_)
        · intro k hk9
          by_cases e : k = m + 2
          · subst e; exact hP
          · rw [hK.pt (by omega) (by omega)]; exact hk k (by omega)
        · intro k hk9 hk8
          rw [hK.pt (by omega) (by omega)]; exact hk2 k (by omega) hk8
        · intro j h6 hj
          rw [hK j h6 (by omega) (by omega) (by omega)]; exact ho j h6 hj
  refine ks_of (by decide) rfl rfl (Nat.le_of_ble_eq_true rfl) ?_
  show ks_X l G mX3_fillMultiples (d + 3) 0 [(0, .ref 14), (1, .int (nI (9 * f)))] [] S _
  refine ks_aload_n dX3_fillMultiples_0 rfl rfl ?_
  refine ks_iload_n dX3_fillMultiples_1 rfl rfl ?_
  refine ks_bipush (x := nI 27) dX3_fillMultiples_2 (by decide) rfl ?_
  refine ks_addN dX3_fillMultiples_4 rfl ?_
  refine ks_iload_n dX3_fillMultiples_5 rfl rfl ?_
  have L1 := hL 0 (by decide)
  rw [show f + 3 * 0 = f from rfl] at L1
  rw [show 9 * f + 27 = 9 * (f + 3) by omega]
  refine ks_callV (n := 2) (M' := mX3_doublePoint) (c_cvD (d := d + 1) (o := f + 3) (p := f) hC (by omega) (by omega) hf6 (by omega) L1) hC.1 cl_X3 rfl kx_498 kx_500 kxp_1 kx_4 kx_501 (by decide +kernel) rfl (by decide) (Nat.le_of_ble_eq_true rfl) rfl dX3_fillMultiples_6 rfl (fun z1 T1 y1 => ?_)
  obtain ⟨rfl, u1, R2, C2, hP, hK⟩ := y1
  refine ks_iconst (x := nI 2) dX3_fillMultiples_9 (by decide) rfl ?_
  refine ks_istore_n dX3_fillMultiples_10 (by decide) rfl ?_
  refine ks_sub [(2, _), (0, _), (1, _)] rfl ?_
  refine ks_sub [(0, _), (1, _), (2, _)] rfl (loop 13 2 _ R2 (by decide) (by decide) u1 C2 ?_ ?_ ?_)
  · intro k hk9
    rcases (show k = 0 ∨ k = 1 by omega) with rfl | rfl
    · exact hK.pt (by omega) (by omega)
    · exact hP
  · intro k hk9 hk8
    exact hK.pt (by omega) (by omega)
  · intro j h6 hj
    exact hK j h6 (by omega) (by omega) (by omega)
def dg4 (u i : Nat) : Nat := u / 2 ^ (4 * i) % 16
def smD (bg : Bool) (P : Pt) : Pt := if bg then ptD (ptD (ptD (ptD P))) else P
def smA (T : Nat → Pt) (b : Nat) (P : Pt) : Pt := if 0 < b then ptS P (T (b - 1)) else P
def smStep (B K : Nat → Pt) (b k : Nat) (st : Pt × Bool) : Pt × Bool := (smA K k (smA B b (smD st.2 st.1)), st.2 || decide (0 < b) || decide (0 < k))
/-- four bits of both numbers at a time -/
def smL (B K : Nat → Pt) (u v : Nat) : Nat → Pt × Bool → Pt × Bool
  | 0, st => st
  | c + 1, st => smL B K u v c (smStep B K (dg4 u c) (dg4 v c) st)
theorem smD_L {bg : Bool} {P : Pt} (h : ptL P) : ptL (smD bg P) := by
  unfold smD
  split
  · exact ptD_L _
  · exact h
theorem smA_L {T : Nat → Pt} {b : Nat} {P : Pt} (hT : ∀ i, i < 15 → ptL (T i)) (hb : b < 16) (h : ptL P) : ptL (smA T b P) := by
  unfold smA
  split
  · exact ptS_L h (hT _ (by omega))
  · exact h
theorem nI_mod (a : Nat) : nI a = nI (a % 2 ^ 32) := by
  apply Int32.toBitVec_inj.mp
  show BitVec.ofNat 32 a = BitVec.ofNat 32 (a % 2 ^ 32)
  apply BitVec.eq_of_toNat_eq
  rw [BitVec.toNat_ofNat, BitVec.toNat_ofNat, Nat.mod_mod]
theorem dg4_of {V bt : Nat} (hV : V < 3705346855594118253554271520278013051304639509300498049262642688253220148477952) (hb : bt < 256) : bitW V bt % 2 ^ 32 % 2 ^ 4 = V / 2 ^ bt % 16 := by
  have := bitW_v hV hb
  omega
def scX (S : ks_S) (Q : Nat → Nat) : Prop := fdX S 17 18 5 Q ∧ Q 5 = nN
theorem scX.up {S S1 : ks_S} {Q : Nat → Nat} {L : List Nat} (h : scX S Q) (hu : ks_up S S1 L) (h1 : 17 ∉ L) (h2 : 18 ∉ L) : scX S1 Q := ⟨h.1.up hu h1 h2, h.2⟩
set_option maxRecDepth 100000 in
set_option maxHeartbeats 2000000 in
theorem c_cv_sum {l : Launch} {G : ks_G} {d : Nat} {S : ks_S} {R Q : Nat → Nat} {ir wk : Bool} (hC : cvX S ir R) (hQ : scX S Q) (hS : ptL (ptR R 7)) (hB : ∀ i, i < 15 → ptL (ptR R (55 + 3 * i))) (hK : wk = true → ∀ i, i < 15 → ptL (ptR R (10 + 3 * i))) : ks_P l G yX3_sum mX3_sum (d + 3) [.ref 14, .int (ks_bo wk)] S (fun z S' => z = none ∧ ks_up S S' [16] ∧ ∃ R2, cvX S' ir R2 ∧ ptR R2 7 = (smL (fun i => ptR R (55 + 3 * i)) (fun i => ptR R (10 + 3 * i)) (Q 3) (if wk then Q 4 else 0) 64 ((R 7, R 8, 0), false)).1 ∧ (∀ j, 6 ≤ j → j < 7 ∨ 10 ≤ j → R2 j = R j) ∧ ptL (ptR R2 7)) := by
  have bq := fun q => hQ.1.2.2.2.2 q
  have dbl : ∀ (P : Option Value → ks_S → Prop) (i : Nat) (bg : Bool) (tgt : Pt), (∀ (S2 : ks_S) (R2 : Nat → Nat), ks_up S S2 [16] → cvX S2 ir R2 → ptR R2 7 = tgt → ptL (ptR R2 7) → (∀ j, 6 ≤ j → j < 7 ∨ 10 ≤ j → R2 j = R j) → ks_X l G mX3_sum (d + 3) 46 [(0, .ref 14), (1, .int (ks_bo wk)), (2, .int (ks_bo bg)), (3, .int (nI i))] [] S2 P) → ∀ c n (S1 : ks_S) (R1 : Nat → Nat), n + c = 4 → ks_up S S1 [16] → cvX S1 ir R1 → ptL (ptR R1 7) → (∀ j, 6 ≤ j → j < 7 ∨ 10 ≤ j → R1 j = R j) → (if bg then tgt = (match c with | 0 => ptR R1 7 | 1 => ptD (ptR R1 7) | 2 => ptD (ptD (ptR R1 7)) | 3 => ptD (ptD (ptD (ptR R1 7))) | _ => ptD (ptD (ptD (ptD (ptR R1 7))))) else tgt = ptR R1 7) → ks_X l G mX3_sum (d + 3) 22 [(0, .ref 14), (1, .int (ks_bo wk)), (2, .int (ks_bo bg)), (3, .int (nI i)), (4, .int (nI n))] [] S1 P := by
    intro P i bg tgt hk c
    induction c with
    | zero =>
      intro n S1 R1 hn hu hC1 hL1 ho ht
      refine ks_iload dX3_sum_22 rfl rfl ?_
      refine ks_iconst (x := nI 4) dX3_sum_24 (by decide) rfl ?_
      refine ks_icmp_geN (tgt := 46) (by omega) (by decide) dX3_sum_25 (by decide) rfl (fun h1 => ?_) (fun h1 => ?_)
      · refine ks_sub [(0, _), (1, _), (2, _), (3, _)] rfl ?_
        exact ks_sub [(0, _), (1, _), (2, _), (3, _)] rfl (hk S1 R1 hu hC1 (by split at ht <;> exact ht.symm) hL1 ho)
      · omega
    | succ c ih =>
      intro n S1 R1 hn hu hC1 hL1 ho ht
      refine ks_iload dX3_sum_22 rfl rfl ?_
      refine ks_iconst (x := nI 4) dX3_sum_24 (by decide) rfl ?_
      refine ks_icmp_geN (tgt := 46) (by omega) (by decide) dX3_sum_25 (by decide) rfl (fun h1 => ?_) (fun h1 => ?_)
      · omega
      · refine ks_iload_n dX3_sum_28 rfl rfl ?_
        refine ks_if_eqZ (tgt := 46) dX3_sum_29 (by decide) rfl (fun h2 => ?_) (fun h2 => ?_)
        · refine ks_sub [(0, _), (1, _), (2, _), (3, _)] rfl ?_
          rw [h2, if_neg (by decide)] at ht
          exact ks_sub [(0, _), (1, _), (2, _), (3, _)] rfl (hk S1 R1 hu hC1 ht.symm hL1 ho)
        · rw [h2, if_pos rfl] at ht
          refine ks_aload_n dX3_sum_32 rfl rfl ?_
          refine ks_bipush (x := nI 63) dX3_sum_33 (by decide) rfl ?_
          refine ks_bipush (x := nI 63) dX3_sum_35 (by decide) rfl ?_
          refine ks_callV (n := 2) (M' := mX3_doublePoint) (c_cvD (d := d + 1) (o := 7) (p := 7) hC1 (by decide) (by decide) (by decide) (by decide) hL1) hC1.1 cl_X3 rfl kx_498 kx_500 kxp_1 kx_4 kx_501 (by decide +kernel) rfl (by decide) (Nat.le_of_ble_eq_true rfl) rfl dX3_sum_37 rfl (fun z1 T1 y1 => ?_)
          obtain ⟨rfl, u1, R2, C2, hP, hK2⟩ := y1
          refine ks_incN (c := 1) (e := n + 1) dX3_sum_40 rfl (by decide) rfl (by decide) rfl ?_
          refine ks_sub [(4, _), (0, _), (1, _), (2, _), (3, _)] rfl ?_
          refine ks_goto (tgt := 22) dX3_sum_43 (by decide) ?_
          refine ks_sub [(0, _), (1, _), (2, _), (3, _), (4, _)] rfl (ih (n + 1) _ R2 (by omega) (hu.trans u1) C2 (by rw [hP]; exact ptD_L _) (fun j h6 hj => (hK2 j h6 (by omega) (by omega) (by omega)).trans (ho j h6 hj)) ?_)
          rw [h2, if_pos rfl, hP]
          rcases (show c = 0 ∨ c = 1 ∨ c = 2 ∨ c = 3 by omega) with rfl | rfl | rfl | rfl <;> exact ht
  have addB : ∀ (P : Option Value → ks_S → Prop) (b : Nat), b < 16 → ∀ (S1 : ks_S) (R1 : Nat → Nat), ks_up S S1 [16] → cvX S1 ir R1 → ptL (ptR R1 7) → (∀ j, 6 ≤ j → j < 7 ∨ 10 ≤ j → R1 j = R j) → ∀ (bg : Bool) (i x : Nat), (∀ (S2 : ks_S) (R2 : Nat → Nat), ks_up S S2 [16] → cvX S2 ir R2 → ptR R2 7 = smA (fun i => ptR R (55 + 3 * i)) b (ptR R1 7) → ptL (ptR R2 7) → (∀ j, 6 ≤ j → j < 7 ∨ 10 ≤ j → R2 j = R j) → ks_X l G mX3_sum (d + 3) 125 [(0, .ref 14), (1, .int (ks_bo wk)), (2, .int (ks_bo bg)), (3, .int (nI i)), (4, .int (nI b)), (5, .int (nI x))] [] S2 P) → ks_X l G mX3_sum (d + 3) 90 [(0, .ref 14), (1, .int (ks_bo wk)), (2, .int (ks_bo bg)), (3, .int (nI i)), (4, .int (nI b)), (5, .int (nI x))] [] S1 P := by
    intro P b hb S1 R1 hu hC1 hL1 ho bg i x hk
    refine ks_iload dX3_sum_90 rfl rfl ?_
    refine ks_if_leN (tgt := 125) (by omega) dX3_sum_92 (by decide) rfl (fun h1 => ?_) (fun h1 => ?_)
    · exact hk S1 R1 hu hC1 (by unfold smA; rw [if_neg (by omega)]) hL1 ho
    · have eT : ptR R1 (55 + 3 * (b - 1)) = (fun i => ptR R (55 + 3 * i)) (b - 1) := by
        show _ = ptR R (55 + 3 * (b - 1))
        unfold ptR
        rw [ho _ (by omega) (by omega), ho _ (by omega) (by omega), ho _ (by omega) (by omega)]
      have LT : ptL (ptR R1 (55 + 3 * (b - 1))) := by
        rw [eT]
        exact hB (b - 1) (by omega)
      refine ks_aload_n dX3_sum_95 rfl rfl ?_
      refine ks_bipush (x := nI 63) dX3_sum_96 (by decide) rfl ?_
      refine ks_bipush (x := nI 63) dX3_sum_98 (by decide) rfl ?_
      refine ks_sipush (x := nI 495) dX3_sum_100 (by decide) rfl ?_
      refine ks_bipush (x := nI 27) dX3_sum_103 (by decide) rfl ?_
      refine ks_iload dX3_sum_105 rfl rfl ?_
      refine ks_iconst (x := nI 1) dX3_sum_107 (by decide) rfl ?_
      refine ks_subN (by omega) dX3_sum_108 rfl ?_
      refine ks_mulN dX3_sum_109 rfl ?_
      refine ks_addN dX3_sum_110 rfl ?_
      rw [show 495 + 27 * (b - 1) = 9 * (55 + 3 * (b - 1)) by omega]
      refine ks_callV (n := 3) (M' := mX3_addPoints) (c_cvA (d := d) (o := 7) (p := 7) (q := 55 + 3 * (b - 1)) hC1 (by decide) (by decide) (by decide) (by decide) (by omega) (by omega) hL1 LT) hC1.1 cl_X3 rfl kx_522 kx_524 kxp_3 kx_4 kx_525 (by decide +kernel) rfl (by decide) (Nat.le_of_ble_eq_true rfl) rfl dX3_sum_111 rfl (fun z1 T1 y1 => ?_)
      obtain ⟨rfl, u1, R2, C2, hP, hK2⟩ := y1
      rw [eT] at hP
      rw [eT]
      have ho2 : ∀ j, 6 ≤ j → j < 7 ∨ 10 ≤ j → R2 j = R j := fun j h6 hj => (hK2 j h6 (by omega) (by omega) (by omega)).trans (ho j h6 hj)
      rw [eT] at LT
      have L2 : ptL (ptR R2 7) := by rw [hP]; exact ptO_L LT hL1
      refine ks_if_neZ (tgt := 125) dX3_sum_114 (by decide) rfl (fun h2 => ?_) (fun h2 => ?_)
      · refine hk _ R2 (hu.trans u1) C2 ?_ L2 ho2
        unfold smA ptS
        rw [if_pos (by omega), h2, if_pos rfl]
        exact hP
      · have eP : ptR R2 7 = ptR R1 7 := by
          rw [hP]
          unfold ptB at h2
          unfold ptO
          rw [Bool.or_eq_false_iff] at h2
          have c1 := of_decide_eq_false h2.1
          have c2 : ptH (ptR R1 7) ((fun i => ptR R (55 + 3 * i)) (b - 1)) = 0 ∧ ptK (ptR R1 7) ((fun i => ptR R (55 + 3 * i)) (b - 1)) = 0 := by
            have := h2.2
            rw [Bool.not_eq_false'] at this
            exact of_decide_eq_true this
          rw [if_neg c1, if_pos c2]
        refine ks_aload_n dX3_sum_117 rfl rfl ?_
        refine ks_bipush (x := nI 63) dX3_sum_118 (by decide) rfl ?_
        refine ks_bipush (x := nI 63) dX3_sum_120 (by decide) rfl ?_
        refine ks_callV (n := 2) (M' := mX3_doublePoint) (c_cvD (d := d + 1) (o := 7) (p := 7) C2 (by decide) (by decide) (by decide) (by decide) L2) C2.1 cl_X3 rfl kx_498 kx_500 kxp_1 kx_4 kx_501 (by decide +kernel) rfl (by decide) (Nat.le_of_ble_eq_true rfl) rfl dX3_sum_122 rfl (fun z3 T3 y3 => ?_)
        obtain ⟨rfl, u3, R3, C3, hP3, hK3⟩ := y3
        refine hk _ R3 (hu.trans (u1.trans u3)) C3 ?_ (by rw [hP3]; exact ptD_L _) (fun j h6 hj => (hK3 j h6 (by omega) (by omega) (by omega)).trans (ho2 j h6 hj))
        unfold smA ptS
        rw [if_pos (by omega), h2, if_neg (by decide), hP3, eP]
  have addK : ∀ (P : Option Value → ks_S → Prop) (b : Nat), b < 16 → (0 < b → wk = true) → ∀ (S1 : ks_S) (R1 : Nat → Nat), ks_up S S1 [16] → cvX S1 ir R1 → ptL (ptR R1 7) → (∀ j, 6 ≤ j → j < 7 ∨ 10 ≤ j → R1 j = R j) → ∀ (bg : Bool) (i x : Nat), (∀ (S2 : ks_S) (R2 : Nat → Nat), ks_up S S2 [16] → cvX S2 ir R2 → ptR R2 7 = smA (fun i => ptR R (10 + 3 * i)) b (ptR R1 7) → ptL (ptR R2 7) → (∀ j, 6 ≤ j → j < 7 ∨ 10 ≤ j → R2 j = R j) → ks_X l G mX3_sum (d + 3) 159 [(0, .ref 14), (1, .int (ks_bo wk)), (2, .int (ks_bo bg)), (3, .int (nI i)), (4, .int (nI x)), (5, .int (nI b))] [] S2 P) → ks_X l G mX3_sum (d + 3) 125 [(0, .ref 14), (1, .int (ks_bo wk)), (2, .int (ks_bo bg)), (3, .int (nI i)), (4, .int (nI x)), (5, .int (nI b))] [] S1 P := by
    intro P b hb hwk S1 R1 hu hC1 hL1 ho bg i x hk
    refine ks_iload dX3_sum_125 rfl rfl ?_
    refine ks_if_leN (tgt := 159) (by omega) dX3_sum_127 (by decide) rfl (fun h1 => ?_) (fun h1 => ?_)
    · exact hk S1 R1 hu hC1 (by unfold smA; rw [if_neg (by omega)]) hL1 ho
    · have eT : ptR R1 (10 + 3 * (b - 1)) = (fun i => ptR R (10 + 3 * i)) (b - 1) := by
        show _ = ptR R (10 + 3 * (b - 1))
        unfold ptR
        rw [ho _ (by omega) (by omega), ho _ (by omega) (by omega), ho _ (by omega) (by omega)]
      have LT : ptL (ptR R1 (10 + 3 * (b - 1))) := by
        rw [eT]
        exact hK (hwk (by omega)) (b - 1) (by omega)
      refine ks_aload_n dX3_sum_130 rfl rfl ?_
      refine ks_bipush (x := nI 63) dX3_sum_131 (by decide) rfl ?_
      refine ks_bipush (x := nI 63) dX3_sum_133 (by decide) rfl ?_
      refine ks_bipush (x := nI 90) dX3_sum_135 (by decide) rfl ?_
      refine ks_bipush (x := nI 27) dX3_sum_137 (by decide) rfl ?_
      refine ks_iload dX3_sum_139 rfl rfl ?_
      refine ks_iconst (x := nI 1) dX3_sum_141 (by decide) rfl ?_
      refine ks_subN (by omega) dX3_sum_142 rfl ?_
      refine ks_mulN dX3_sum_143 rfl ?_
      refine ks_addN dX3_sum_144 rfl ?_
      rw [show 90 + 27 * (b - 1) = 9 * (10 + 3 * (b - 1)) by omega]
      refine ks_callV (n := 3) (M' := mX3_addPoints) (c_cvA (d := d) (o := 7) (p := 7) (q := 10 + 3 * (b - 1)) hC1 (by decide) (by decide) (by decide) (by decide) (by omega) (by omega) hL1 LT) hC1.1 cl_X3 rfl kx_522 kx_524 kxp_3 kx_4 kx_525 (by decide +kernel) rfl (by decide) (Nat.le_of_ble_eq_true rfl) rfl dX3_sum_145 rfl (fun z1 T1 y1 => ?_)
      obtain ⟨rfl, u1, R2, C2, hP, hK2⟩ := y1
      rw [eT] at hP
      rw [eT]
      have ho2 : ∀ j, 6 ≤ j → j < 7 ∨ 10 ≤ j → R2 j = R j := fun j h6 hj => (hK2 j h6 (by omega) (by omega) (by omega)).trans (ho j h6 hj)
      rw [eT] at LT
      have L2 : ptL (ptR R2 7) := by rw [hP]; exact ptO_L LT hL1
      refine ks_if_neZ (tgt := 159) dX3_sum_148 (by decide) rfl (fun h2 => ?_) (fun h2 => ?_)
      · refine hk _ R2 (hu.trans u1) C2 ?_ L2 ho2
        unfold smA ptS
        rw [if_pos (by omega), h2, if_pos rfl]
        exact hP
      · have eP : ptR R2 7 = ptR R1 7 := by
          rw [hP]
          unfold ptB at h2
          unfold ptO
          rw [Bool.or_eq_false_iff] at h2
          have c1 := of_decide_eq_false h2.1
          have c2 : ptH (ptR R1 7) ((fun i => ptR R (10 + 3 * i)) (b - 1)) = 0 ∧ ptK (ptR R1 7) ((fun i => ptR R (10 + 3 * i)) (b - 1)) = 0 := by
            have := h2.2
            rw [Bool.not_eq_false'] at this
            exact of_decide_eq_true this
          rw [if_neg c1, if_pos c2]
        refine ks_aload_n dX3_sum_151 rfl rfl ?_
        refine ks_bipush (x := nI 63) dX3_sum_152 (by decide) rfl ?_
        refine ks_bipush (x := nI 63) dX3_sum_154 (by decide) rfl ?_
        refine ks_callV (n := 2) (M' := mX3_doublePoint) (c_cvD (d := d + 1) (o := 7) (p := 7) C2 (by decide) (by decide) (by decide) (by decide) L2) C2.1 cl_X3 rfl kx_498 kx_500 kxp_1 kx_4 kx_501 (by decide +kernel) rfl (by decide) (Nat.le_of_ble_eq_true rfl) rfl dX3_sum_156 rfl (fun z3 T3 y3 => ?_)
        obtain ⟨rfl, u3, R3, C3, hP3, hK3⟩ := y3
        refine hk _ R3 (hu.trans (u1.trans u3)) C3 ?_ (by rw [hP3]; exact ptD_L _) (fun j h6 hj => (hK3 j h6 (by omega) (by omega) (by omega)).trans (ho2 j h6 hj))
        unfold smA ptS
        rw [if_pos (by omega), h2, if_neg (by decide), hP3, eP]
  have loop : ∀ c (S1 : ks_S) (R1 : Nat → Nat) (bg : Bool), c ≤ 64 → ks_up S S1 [16] → cvX S1 ir R1 → ptL (ptR R1 7) → (∀ j, 6 ≤ j → j < 7 ∨ 10 ≤ j → R1 j = R j) → ks_X l G mX3_sum (d + 3) 15 [(0, .ref 14), (1, .int (ks_bo wk)), (2, .int (ks_bo bg)), (3, .int (nI c - 1))] [] S1 (fun z S' => z = none ∧ ks_up S S' [16] ∧ ∃ R2, cvX S' ir R2 ∧ ptR R2 7 = (smL (fun i => ptR R (55 + 3 * i)) (fun i => ptR R (10 + 3 * i)) (Q 3) (if wk then Q 4 else 0) c (ptR R1 7, bg)).1 ∧ (∀ j, 6 ≤ j → j < 7 ∨ 10 ≤ j → R2 j = R j) ∧ ptL (ptR R2 7)) := by
    intro c
    induction c with
    | zero =>
      intro S1 R1 bg hc hu hC1 hL1 ho
      refine ks_iload_n dX3_sum_15 rfl rfl ?_
      refine ks_if_ltD (tgt := 185) (by omega) dX3_sum_16 (by decide) rfl (fun h1 => ?_) (fun h1 => ?_)
      · refine ks_ret rfl dX3_sum_185 ?_
        exact ⟨rfl, hu, R1, hC1, rfl, ho, hL1⟩
      · exact absurd rfl h1
    | succ c ih =>
      intro S1 R1 bg hc hu hC1 hL1 ho
      rw [nI_pred]
      refine ks_iload_n dX3_sum_15 rfl rfl ?_
      refine ks_if_ltN (tgt := 185) (by omega) dX3_sum_16 (by decide) rfl ?_
      refine ks_iconst (x := nI 0) dX3_sum_19 (by decide) rfl ?_
      refine ks_istore dX3_sum_20 (by decide) rfl ?_
      refine ks_sub [(4, _), (0, _), (1, _), (2, _), (3, _)] rfl ?_
      refine ks_sub [(0, _), (1, _), (2, _), (3, _), (4, _)] rfl (dbl _ c bg (smD bg (ptR R1 7)) ?_ 4 0 S1 R1 (by decide) hu hC1 hL1 ho (by unfold smD; split <;> rfl))
      intro S2 R2 hu2 hC2 hP2 hL2 ho2
      have hQ2 := hQ.up hu2 (by decide) (by decide)
      refine ks_aload_n dX3_sum_46 rfl rfl ?_
      refine ks_getf (T := TX3) (kf := 1) kx_536 rfl in_X3 cl_X3 (by decide) hC2.1 rfl dX3_sum_47 rfl ?_
      refine ks_bipush (x := nI 27) dX3_sum_50 (by decide) rfl ?_
      refine ks_iconst (x := nI 4) dX3_sum_52 (by decide) rfl ?_
      refine ks_iload_n dX3_sum_53 rfl rfl ?_
      refine ks_mulN dX3_sum_54 rfl ?_
      refine ks_callV (n := 2) (M' := mX5_bitsAt) (c_fd_bitsAt (d := d + 2) (x := 3) (bt := 4 * c) hQ2.1 (by decide) (by omega)) hQ2.1.1 cl_X5 rfl kx_1186 kx_1187 kx_1188 kx_5 kx_1189 (by decide +kernel) rfl (by decide) (Nat.le_of_ble_eq_true rfl) rfl dX3_sum_55 rfl (fun z4 T4 y4 => ?_)
      obtain ⟨rfl, hS4⟩ := y4
      obtain rfl := hS4.symm
      refine ks_l2iN dX3_sum_58 rfl ?_
      rw [nI_mod (bitW (Q 3) (4 * c))]
      refine ks_bipush (x := nI 15) dX3_sum_59 (by decide) rfl ?_
      refine ks_andN (k := 4) (by omega) (by decide) dX3_sum_61 rfl ?_
      rw [dg4_of (bq 3) (by omega)]
      have b3 : Q 3 / 2 ^ (4 * c) % 16 < 16 := Nat.mod_lt _ (by decide)
      refine ks_ti (y := nI (dg4 (Q 3) c)) rfl ?_
      refine ks_istore dX3_sum_62 (by decide) rfl ?_
      refine ks_sub [(4, _), (0, _), (1, _), (2, _), (3, _)] rfl ?_
      refine ks_iload_n dX3_sum_64 rfl rfl ?_
      refine ks_if_eqZ (tgt := 87) dX3_sum_65 (by decide) rfl (fun hw => ?_) (fun hw => ?_)
      · refine ks_iconst (x := nI 0) dX3_sum_87 (by decide) rfl ?_
        refine ks_istore dX3_sum_88 (by decide) rfl ?_
        refine ks_sub [(5, _), (0, _), (1, _), (2, _), (3, _), (4, _)] rfl ?_
        have ek : dg4 (if wk then Q 4 else 0) c = 0 := by rw [hw]; unfold dg4; rw [if_neg (by decide), Nat.zero_div]
        refine ks_sub [(0, _), (1, _), (2, _), (3, _), (4, _), (5, _)] rfl (addB _ (dg4 (Q 3) c) b3 S2 R2 hu2 hC2 hL2 ho2 bg c 0 ?_)
        intro S3 R3 hu3 hC3 hP3 hL3 ho3
        refine addK _ 0 (by decide) (fun h => absurd h (by decide)) S3 R3 hu3 hC3 hL3 ho3 bg c (dg4 (Q 3) c) ?_
        intro S4 R4 hu4 hC4 hP4 hL4 ho4
        have hs : smL (fun i => ptR R (55 + 3 * i)) (fun i => ptR R (10 + 3 * i)) (Q 3) (if wk then Q 4 else 0) (c + 1) (ptR R1 7, bg) = smL (fun i => ptR R (55 + 3 * i)) (fun i => ptR R (10 + 3 * i)) (Q 3) (if wk then Q 4 else 0) c (ptR R4 7, bg || decide (0 < dg4 (Q 3) c) || decide (0 < 0)) := by
          rw [smL]
          unfold smStep
          rw [ek, hP4, hP3, hP2]
        rw [hs]
        have hd3 : dg4 (Q 3) c < 16 := b3
        refine ks_iload_n dX3_sum_159 rfl rfl ?_
        refine ks_if_neZ (tgt := 173) dX3_sum_160 (by decide) rfl (fun hc160 => ?_) (fun hc160 => ?_)
        · refine ks_iconst (x := nI 1) dX3_sum_173 (by decide) rfl ?_
          refine ks_goto (tgt := 178) dX3_sum_174 (by decide) ?_
          refine ks_istore_n dX3_sum_178 (by decide) rfl ?_
          refine ks_sub [(2, _), (0, _), (1, _), (3, _), (4, _), (5, _)] rfl ?_
          refine ks_incD dX3_sum_179 rfl (by decide) (by decide) rfl ?_
          refine ks_sub [(3, _), (0, _), (1, _), (2, _), (4, _), (5, _)] rfl ?_
          refine ks_goto (tgt := 15) dX3_sum_182 (by decide) ?_
          have eb : (bg || decide (0 < dg4 (Q 3) c) || decide (0 < 0)) = true := by
            first
              | (rw [show bg = true from by assumption]; rfl)
              | (rw [decide_eq_true (show 0 < dg4 (Q 3) c by omega), Bool.or_true]; rfl)
              | (rw [decide_eq_true (show 0 < 0 by omega), Bool.or_true])
              | (rw [show bg = false from by assumption, decide_eq_false (show ¬ 0 < dg4 (Q 3) c by omega), decide_eq_false (show ¬ 0 < 0 by omega)]; rfl)
          rw [eb]
          exact ks_sub [(0, _), (1, _), (2, _), (3, _)] rfl (ih S4 R4 true (by omega) hu4 hC4 hL4 ho4)
        · refine ks_iload dX3_sum_163 rfl rfl ?_
          refine ks_if_gtN (tgt := 173) (by omega) dX3_sum_165 (by decide) rfl (fun hc165 => ?_) (fun hc165 => ?_)
          · refine ks_iconst (x := nI 1) dX3_sum_173 (by decide) rfl ?_
            refine ks_goto (tgt := 178) dX3_sum_174 (by decide) ?_
            refine ks_istore_n dX3_sum_178 (by decide) rfl ?_
            refine ks_sub [(2, _), (0, _), (1, _), (3, _), (4, _), (5, _)] rfl ?_
            refine ks_incD dX3_sum_179 rfl (by decide) (by decide) rfl ?_
            refine ks_sub [(3, _), (0, _), (1, _), (2, _), (4, _), (5, _)] rfl ?_
            refine ks_goto (tgt := 15) dX3_sum_182 (by decide) ?_
            have eb : (bg || decide (0 < dg4 (Q 3) c) || decide (0 < 0)) = true := by
              first
                | (rw [show bg = true from by assumption]; rfl)
                | (rw [decide_eq_true (show 0 < dg4 (Q 3) c by omega), Bool.or_true]; rfl)
                | (rw [decide_eq_true (show 0 < 0 by omega), Bool.or_true])
                | (rw [show bg = false from by assumption, decide_eq_false (show ¬ 0 < dg4 (Q 3) c by omega), decide_eq_false (show ¬ 0 < 0 by omega)]; rfl)
            rw [eb]
            exact ks_sub [(0, _), (1, _), (2, _), (3, _)] rfl (ih S4 R4 true (by omega) hu4 hC4 hL4 ho4)
          · refine ks_iload dX3_sum_168 rfl rfl ?_
            refine ks_if_leN (tgt := 177) (by decide) dX3_sum_170 (by decide) rfl (fun hc170 => ?_) (fun hc170 => ?_)
            · refine ks_iconst (x := nI 0) dX3_sum_177 (by decide) rfl ?_
              refine ks_istore_n dX3_sum_178 (by decide) rfl ?_
              refine ks_sub [(2, _), (0, _), (1, _), (3, _), (4, _), (5, _)] rfl ?_
              refine ks_incD dX3_sum_179 rfl (by decide) (by decide) rfl ?_
              refine ks_sub [(3, _), (0, _), (1, _), (2, _), (4, _), (5, _)] rfl ?_
              refine ks_goto (tgt := 15) dX3_sum_182 (by decide) ?_
              have eb : (bg || decide (0 < dg4 (Q 3) c) || decide (0 < 0)) = false := by
                first
                  | (rw [show bg = true from by assumption]; rfl)
                  | (rw [decide_eq_true (show 0 < dg4 (Q 3) c by omega), Bool.or_true]; rfl)
                  | (rw [decide_eq_true (show 0 < 0 by omega), Bool.or_true])
                  | (rw [show bg = false from by assumption, decide_eq_false (show ¬ 0 < dg4 (Q 3) c by omega), decide_eq_false (show ¬ 0 < 0 by omega)]; rfl)
              rw [eb]
              exact ks_sub [(0, _), (1, _), (2, _), (3, _)] rfl (ih S4 R4 false (by omega) hu4 hC4 hL4 ho4)
            · refine ks_iconst (x := nI 1) dX3_sum_173 (by decide) rfl ?_
              refine ks_goto (tgt := 178) dX3_sum_174 (by decide) ?_
              refine ks_istore_n dX3_sum_178 (by decide) rfl ?_
              refine ks_sub [(2, _), (0, _), (1, _), (3, _), (4, _), (5, _)] rfl ?_
              refine ks_incD dX3_sum_179 rfl (by decide) (by decide) rfl ?_
              refine ks_sub [(3, _), (0, _), (1, _), (2, _), (4, _), (5, _)] rfl ?_
              refine ks_goto (tgt := 15) dX3_sum_182 (by decide) ?_
              have eb : (bg || decide (0 < dg4 (Q 3) c) || decide (0 < 0)) = true := by
                first
                  | (rw [show bg = true from by assumption]; rfl)
                  | (rw [decide_eq_true (show 0 < dg4 (Q 3) c by omega), Bool.or_true]; rfl)
                  | (rw [decide_eq_true (show 0 < 0 by omega), Bool.or_true])
                  | (rw [show bg = false from by assumption, decide_eq_false (show ¬ 0 < dg4 (Q 3) c by omega), decide_eq_false (show ¬ 0 < 0 by omega)]; rfl)
              rw [eb]
              exact ks_sub [(0, _), (1, _), (2, _), (3, _)] rfl (ih S4 R4 true (by omega) hu4 hC4 hL4 ho4)
      · refine ks_aload_n dX3_sum_68 rfl rfl ?_
        refine ks_getf (T := TX3) (kf := 1) kx_536 rfl in_X3 cl_X3 (by decide) hC2.1 rfl dX3_sum_69 rfl ?_
        refine ks_bipush (x := nI 36) dX3_sum_72 (by decide) rfl ?_
        refine ks_iconst (x := nI 4) dX3_sum_74 (by decide) rfl ?_
        refine ks_iload_n dX3_sum_75 rfl rfl ?_
        refine ks_mulN dX3_sum_76 rfl ?_
        refine ks_callV (n := 2) (M' := mX5_bitsAt) (c_fd_bitsAt (d := d + 2) (x := 4) (bt := 4 * c) hQ2.1 (by decide) (by omega)) hQ2.1.1 cl_X5 rfl kx_1186 kx_1187 kx_1188 kx_5 kx_1189 (by decide +kernel) rfl (by decide) (Nat.le_of_ble_eq_true rfl) rfl dX3_sum_77 rfl (fun z4 T4 y4 => ?_)
        obtain ⟨rfl, hS4⟩ := y4
        obtain rfl := hS4.symm
        refine ks_l2iN dX3_sum_80 rfl ?_
        rw [nI_mod (bitW (Q 4) (4 * c))]
        refine ks_bipush (x := nI 15) dX3_sum_81 (by decide) rfl ?_
        refine ks_andN (k := 4) (by omega) (by decide) dX3_sum_83 rfl ?_
        rw [dg4_of (bq 4) (by omega)]
        have b4 : Q 4 / 2 ^ (4 * c) % 16 < 16 := Nat.mod_lt _ (by decide)
        refine ks_ti (y := nI (dg4 (Q 4) c)) rfl ?_
        refine ks_goto (tgt := 88) dX3_sum_84 (by decide) ?_
        refine ks_istore dX3_sum_88 (by decide) rfl ?_
        refine ks_sub [(5, _), (0, _), (1, _), (2, _), (3, _), (4, _)] rfl ?_
        have ek : dg4 (if wk then Q 4 else 0) c = (dg4 (Q 4) c) := by rw [hw]; rfl
        refine ks_sub [(0, _), (1, _), (2, _), (3, _), (4, _), (5, _)] rfl (addB _ (dg4 (Q 3) c) b3 S2 R2 hu2 hC2 hL2 ho2 bg c (dg4 (Q 4) c) ?_)
        intro S3 R3 hu3 hC3 hP3 hL3 ho3
        refine addK _ (dg4 (Q 4) c) b4 (fun _ => hw) S3 R3 hu3 hC3 hL3 ho3 bg c (dg4 (Q 3) c) ?_
        intro S4 R4 hu4 hC4 hP4 hL4 ho4
        have hs : smL (fun i => ptR R (55 + 3 * i)) (fun i => ptR R (10 + 3 * i)) (Q 3) (if wk then Q 4 else 0) (c + 1) (ptR R1 7, bg) = smL (fun i => ptR R (55 + 3 * i)) (fun i => ptR R (10 + 3 * i)) (Q 3) (if wk then Q 4 else 0) c (ptR R4 7, bg || decide (0 < dg4 (Q 3) c) || decide (0 < (dg4 (Q 4) c))) := by
          rw [smL]
          unfold smStep
          rw [ek, hP4, hP3, hP2]
        rw [hs]
        have hd3 : dg4 (Q 3) c < 16 := b3
        have hd4 : dg4 (Q 4) c < 16 := b4
        refine ks_iload_n dX3_sum_159 rfl rfl ?_
        refine ks_if_neZ (tgt := 173) dX3_sum_160 (by decide) rfl (fun hc160 => ?_) (fun hc160 => ?_)
        · refine ks_iconst (x := nI 1) dX3_sum_173 (by decide) rfl ?_
          refine ks_goto (tgt := 178) dX3_sum_174 (by decide) ?_
          refine ks_istore_n dX3_sum_178 (by decide) rfl ?_
          refine ks_sub [(2, _), (0, _), (1, _), (3, _), (4, _), (5, _)] rfl ?_
          refine ks_incD dX3_sum_179 rfl (by decide) (by decide) rfl ?_
          refine ks_sub [(3, _), (0, _), (1, _), (2, _), (4, _), (5, _)] rfl ?_
          refine ks_goto (tgt := 15) dX3_sum_182 (by decide) ?_
          have eb : (bg || decide (0 < dg4 (Q 3) c) || decide (0 < (dg4 (Q 4) c))) = true := by
            first
              | (rw [show bg = true from by assumption]; rfl)
              | (rw [decide_eq_true (show 0 < dg4 (Q 3) c by omega), Bool.or_true]; rfl)
              | (rw [decide_eq_true (show 0 < (dg4 (Q 4) c) by omega), Bool.or_true])
              | (rw [show bg = false from by assumption, decide_eq_false (show ¬ 0 < dg4 (Q 3) c by omega), decide_eq_false (show ¬ 0 < (dg4 (Q 4) c) by omega)]; rfl)
          rw [eb]
          exact ks_sub [(0, _), (1, _), (2, _), (3, _)] rfl (ih S4 R4 true (by omega) hu4 hC4 hL4 ho4)
        · refine ks_iload dX3_sum_163 rfl rfl ?_
          refine ks_if_gtN (tgt := 173) (by omega) dX3_sum_165 (by decide) rfl (fun hc165 => ?_) (fun hc165 => ?_)
          · refine ks_iconst (x := nI 1) dX3_sum_173 (by decide) rfl ?_
            refine ks_goto (tgt := 178) dX3_sum_174 (by decide) ?_
            refine ks_istore_n dX3_sum_178 (by decide) rfl ?_
            refine ks_sub [(2, _), (0, _), (1, _), (3, _), (4, _), (5, _)] rfl ?_
            refine ks_incD dX3_sum_179 rfl (by decide) (by decide) rfl ?_
            refine ks_sub [(3, _), (0, _), (1, _), (2, _), (4, _), (5, _)] rfl ?_
            refine ks_goto (tgt := 15) dX3_sum_182 (by decide) ?_
            have eb : (bg || decide (0 < dg4 (Q 3) c) || decide (0 < (dg4 (Q 4) c))) = true := by
              first
                | (rw [show bg = true from by assumption]; rfl)
                | (rw [decide_eq_true (show 0 < dg4 (Q 3) c by omega), Bool.or_true]; rfl)
                | (rw [decide_eq_true (show 0 < (dg4 (Q 4) c) by omega), Bool.or_true])
                | (rw [show bg = false from by assumption, decide_eq_false (show ¬ 0 < dg4 (Q 3) c by omega), decide_eq_false (show ¬ 0 < (dg4 (Q 4) c) by omega)]; rfl)
            rw [eb]
            exact ks_sub [(0, _), (1, _), (2, _), (3, _)] rfl (ih S4 R4 true (by omega) hu4 hC4 hL4 ho4)
          · refine ks_iload dX3_sum_168 rfl rfl ?_
            refine ks_if_leN (tgt := 177) (by omega) dX3_sum_170 (by decide) rfl (fun hc170 => ?_) (fun hc170 => ?_)
            · refine ks_iconst (x := nI 0) dX3_sum_177 (by decide) rfl ?_
              refine ks_istore_n dX3_sum_178 (by decide) rfl ?_
              refine ks_sub [(2, _), (0, _), (1, _), (3, _), (4, _), (5, _)] rfl ?_
              refine ks_incD dX3_sum_179 rfl (by decide) (by decide) rfl ?_
              refine ks_sub [(3, _), (0, _), (1, _), (2, _), (4, _), (5, _)] rfl ?_
              refine ks_goto (tgt := 15) dX3_sum_182 (by decide) ?_
              have eb : (bg || decide (0 < dg4 (Q 3) c) || decide (0 < (dg4 (Q 4) c))) = false := by
                first
                  | (rw [show bg = true from by assumption]; rfl)
                  | (rw [decide_eq_true (show 0 < dg4 (Q 3) c by omega), Bool.or_true]; rfl)
                  | (rw [decide_eq_true (show 0 < (dg4 (Q 4) c) by omega), Bool.or_true])
                  | (rw [show bg = false from by assumption, decide_eq_false (show ¬ 0 < dg4 (Q 3) c by omega), decide_eq_false (show ¬ 0 < (dg4 (Q 4) c) by omega)]; rfl)
              rw [eb]
              exact ks_sub [(0, _), (1, _), (2, _), (3, _)] rfl (ih S4 R4 false (by omega) hu4 hC4 hL4 ho4)
            · refine ks_iconst (x := nI 1) dX3_sum_173 (by decide) rfl ?_
              refine ks_goto (tgt := 178) dX3_sum_174 (by decide) ?_
              refine ks_istore_n dX3_sum_178 (by decide) rfl ?_
              refine ks_sub [(2, _), (0, _), (1, _), (3, _), (4, _), (5, _)] rfl ?_
              refine ks_incD dX3_sum_179 rfl (by decide) (by decide) rfl ?_
              refine ks_sub [(3, _), (0, _), (1, _), (2, _), (4, _), (5, _)] rfl ?_
              refine ks_goto (tgt := 15) dX3_sum_182 (by decide) ?_
              have eb : (bg || decide (0 < dg4 (Q 3) c) || decide (0 < (dg4 (Q 4) c))) = true := by
                first
                  | (rw [show bg = true from by assumption]; rfl)
                  | (rw [decide_eq_true (show 0 < dg4 (Q 3) c by omega), Bool.or_true]; rfl)
                  | (rw [decide_eq_true (show 0 < (dg4 (Q 4) c) by omega), Bool.or_true])
                  | (rw [show bg = false from by assumption, decide_eq_false (show ¬ 0 < dg4 (Q 3) c by omega), decide_eq_false (show ¬ 0 < (dg4 (Q 4) c) by omega)]; rfl)
              rw [eb]
              exact ks_sub [(0, _), (1, _), (2, _), (3, _)] rfl (ih S4 R4 true (by omega) hu4 hC4 hL4 ho4)
  refine ks_of (by decide) rfl rfl (Nat.le_of_ble_eq_true rfl) ?_
  show ks_X l G mX3_sum (d + 3) 0 [(0, .ref 14), (1, .int (ks_bo wk))] [] S _
  refine ks_aload_n dX3_sum_0 rfl rfl ?_
  refine ks_getf (T := TX3) (kf := 0) kx_535 rfl in_X3 cl_X3 (by decide) hC.1 rfl dX3_sum_1 rfl ?_
  refine ks_bipush (x := nI 81) dX3_sum_4 (by decide) rfl ?_
  refine ks_iconst (x := nI 0) dX3_sum_6 (by decide) rfl ?_
  refine ks_callV (n := 2) (M' := mX5_loadSmall) (c_fd_loadSmall (d := d) (o := 9) (v := 0) hC.2.1 (by decide) (by decide)) hC.2.1.1 cl_X5 rfl kx_145 kx_146 kx_147 kx_5 kx_148 (by decide +kernel) rfl (by decide) (Nat.le_of_ble_eq_true rfl) rfl dX3_sum_7 rfl (fun z1 T1 y1 => ?_)
  obtain ⟨rfl, u1, f1⟩ := y1
  have C1 := hC.of u1 f1 (va_up_ne _ _ (by decide))
  have e7 : ptR (va_up R 9 0) 7 = (R 7, R 8, 0) := rfl
  have L7 : ptL (ptR (va_up R 9 0) 7) := by rw [e7]; exact ⟨hS.1, hS.2.1, by show 0 < pP; decide⟩
  have ho1 : ∀ j, 6 ≤ j → j < 7 ∨ 10 ≤ j → va_up R 9 0 j = R j := fun j h6 hj => va_up_ne _ _ (by omega)
  refine ks_iconst (x := nI 0) dX3_sum_10 (by decide) rfl ?_
  refine ks_istore_n dX3_sum_11 (by decide) rfl ?_
  refine ks_sub [(2, _), (0, _), (1, _)] rfl ?_
  refine ks_bipush (x := nI 63) dX3_sum_12 (by decide) rfl ?_
  refine ks_istore_n dX3_sum_14 (by decide) rfl ?_
  refine ks_sub [(3, _), (0, _), (1, _), (2, _)] rfl ?_
  have h9 := loop 64 _ (va_up R 9 0) false (by decide) u1 C1 L7 ho1
  rw [e7] at h9
  exact ks_sub [(0, _), (1, _), (2, _), (3, _)] rfl h9
