/-! THE REFERENCE: the machine as a whole -/
abbrev LMr : List Nat := [290, 291, 292, 293, 299, 303, 304, 305, 336, 361, 362, 363, 364, 367, 370, 371, 372, 373, 552, 553, 554, 560, 561, 562, 312, 313, 314, 316, 317, 318, 320, 321, 322, 323, 324, 325, 326, 327, 328, 329, 330, 331, 332, 333, 334, 335]
abbrev LMf : List Nat := [40, 41, 63, 67, 70, 74, 87, 88, 89, 91]
/-- the fixed rows are no elements -/
def lowS (S : ks_S) : Prop := ∀ x, x < 563 → ∃ e, S.2.2 x = some e ∧ ∀ g, e ≠ kB 520 g
/-- of the transaction at hand -/
def mqT (P y N : Nat) (G9 : Nat → Nat) (k u e inp : Nat) : Prop := kO G9 ∧ inp < k ∧ (564 < y ∧ 564 < P) ∧ (N ≠ 520 ∧ N ≠ 1700) ∧ e ≤ u + 4000
def gdF (Gp : Pt) (G9 : Nat → Nat) (L b k p m u e inp : Nat) : List Nat → List Nat → List Nat → Bool := fun cd kk ss => ecF Gp kk ss (sgH G9 L b k p m u e inp (ss.getD (ss.length - 1) 0) cd)
def mqS (S : ks_S) (V : Nat → Value) (F : Nat) (xs ys : List (List Nat)) (vs : Vs) (Gp : Pt) (P y N : Nat) (G9 : Nat → Nat) (L t b k p m u e inp : Nat) : Prop := S.2.2 290 = some (rfE V) ∧ rsQ S V F xs ys vs ∧ gdS S V Gp P y N G9 L t b k p m u e inp ∧ rhS S ∧ S.2.2 369 = some (kN 21 nedR) ∧ lowS S ∧ ∃ dn, S.2.2 368 = some (kZ 1601 dn)
def mqK (S S' : ks_S) (V V' : Nat → Value) (F F' : Nat) : Prop := sfK LMr S S' F F' ∧ ∀ k, k ∉ LMf → V' k = V k
theorem mqK.trans {S S1 S2 : ks_S} {V V1 V2 : Nat → Value} {F F1 F2 : Nat} (h : mqK S S1 V V1 F F1) (k : mqK S1 S2 V1 V2 F1 F2) : mqK S S2 V V2 F F2 := ⟨h.1.trans k.1, fun j a => (k.2 j a).trans (h.2 j a)⟩
theorem mqK.rf (S : ks_S) (V : Nat → Value) (F : Nat) : mqK S S V V F F := ⟨sfK.rf _ _ _, fun _ _ => rfl⟩
theorem mqK.ms {S S1 : ks_S} {V V1 : Nat → Value} {F F1 : Nat} (h : msK S S1 V V1 F F1) : mqK S S1 V V1 F F1 := ⟨h.1.mono (by decide), fun j a => h.2.2 j (fun h => a (by rw [h]; decide)) (fun h => a (by rw [h]; decide)) (fun h => a (by rw [h]; decide))⟩
theorem mqK.gd {S S1 : ks_S} {V V1 : Nat → Value} {F : Nat} (h : gdK S S1 V V1) : mqK S S1 V V1 F F := ⟨(sfK.of h.1).mono (by decide), fun j a => h.2.2 j (fun h => a (by rw [h]; decide)) (fun h => a (by rw [h]; decide)) (fun h => a (by rw [h]; decide)) (fun h => a (by rw [h]; decide)) (fun h => a (by rw [h]; decide)) (fun h => a (by rw [h]; decide)) (fun h => a (by rw [h]; decide)) (fun h => a (by rw [h]; decide))⟩
/-- what an operation leaves -/
def mqR (S S' : ks_S) (V : Nat → Value) (F : Nat) (r : Option (List (List Nat) × List (List Nat))) (vs : Vs) (Gp : Pt) (P y N : Nat) (G9 : Nat → Nat) (L t b k p m u e inp : Nat) : Prop := ∃ V' F' xs' ys', mqK S S' V V' F F' ∧ mqS S' V' F' xs' ys' vs Gp P y N G9 L t b k p m u e inp ∧ ((V' 74 = .int (ks_bo false) ∧ r = some (xs', ys')) ∨ (V' 74 = .int (ks_bo true) ∧ ∀ q, r = some q → 1000 < q.1.length + q.2.length))
theorem lowS.sf {S S1 : ks_S} {F F' : Nat} {L : List Nat} (h : lowS S) (hu : sfK L S S1 F F') (hL : ∀ x ∈ L, ∃ e, S1.2.2 x = some e ∧ ∀ g, e ≠ kB 520 g) : lowS S1 := fun x hx => by
  by_cases hm : x ∈ L
  · exact hL x hm
  · obtain ⟨e, h1, h2⟩ := h x hx
    exact ⟨e, hu.2 x e h1 hm h2, h2⟩
theorem lowS.no {S : ks_S} (h : lowS S) : ∀ x, x < 563 → ∀ g, S.2.2 x ≠ some (kB 520 g) := fun x hx g hg => by
  obtain ⟨e, h1, h2⟩ := h x hx
  rw [hg] at h1
  exact h2 g (Option.some.inj h1).symm
theorem rsQ.non {S : ks_S} {V : Nat → Value} {F : Nat} {xs ys : List (List Nat)} {vs : Vs} (h : rsQ S V F xs ys vs) : ∀ x ∈ ([361, 362, 363, 364, 365, 366, 367] : List Nat), ∃ e, S.2.2 x = some e ∧ ∀ g, e ≠ kB 520 g := fun x hx => by
  obtain ⟨T, sz, oz, vz, ⟨hT, ⟨h2, h4, h6⟩, -⟩, -, g, kg, h7⟩ := h
  simp only [List.mem_cons, List.not_mem_nil, or_false] at hx
  rcases hx with rfl | rfl | rfl | rfl | rfl | rfl | rfl
  · exact ⟨_, hT.1 0 (by decide), fun g h => by cases h⟩
  · exact ⟨_, h2, fun g h => by cases h⟩
  · exact ⟨_, hT.1 1 (by decide), fun g h => by cases h⟩
  · exact ⟨_, h4, fun g h => by cases h⟩
  · exact ⟨_, hT.1 2 (by decide), fun g h => by cases h⟩
  · exact ⟨_, h6, fun g h => by cases h⟩
  · exact ⟨_, h7, fun g h => absurd (kB_lq h) (by decide)⟩
theorem LBc_low {S1 : ks_S} {V1 : Nat → Value} {F1 : Nat} {xs ys : List (List Nat)} {vs : Vs} (o1 : S1.2.2 290 = some (rfE V1)) (hQ : rsQ S1 V1 F1 xs ys vs) (h8 : ∃ dn, S1.2.2 368 = some (kZ 1601 dn)) : ∀ x ∈ LBc, ∃ e, S1.2.2 x = some e ∧ ∀ g, e ≠ kB 520 g := fun x hx => by
  simp only [List.mem_cons, List.not_mem_nil, or_false] at hx
  rcases hx with rfl | rfl | rfl | rfl | rfl | rfl | rfl
  · exact ⟨_, o1, fun g h => by cases h⟩
  · exact hQ.non 361 (by decide)
  · exact hQ.non 362 (by decide)
  · exact hQ.non 363 (by decide)
  · exact hQ.non 364 (by decide)
  · exact hQ.non 367 (by decide)
  · obtain ⟨dn, h⟩ := h8
    exact ⟨_, h, fun g h => by cases h⟩
/-- a step of the stack and the conditions -/
theorem mqS.bc {S S1 : ks_S} {V : Nat → Value} {F : Nat} {xs ys : List (List Nat)} {vs : Vs} {Gp : Pt} {P y N L t b k p m u e inp : Nat} {G9 : Nat → Nat} {V1 : Nat → Value} {F1 F2 : Nat} {xs1 ys1 : List (List Nat)} {vs1 : Vs} (h : mqS S V F xs ys vs Gp P y N G9 L t b k p m u e inp) (hT9 : mqT P y N G9 k u e inp) (hu : sfK LBc S S1 F2 F1) (o1 : S1.2.2 290 = some (rfE V1)) (hv : ∀ j, j = 76 ∨ j = 77 ∨ j = 78 ∨ j = 87 ∨ j = 88 ∨ j = 89 ∨ j = 91 → V1 j = V j) (hQ : rsQ S1 V1 F1 xs1 ys1 vs1) (h8 : ∃ dn, S1.2.2 368 = some (kZ 1601 dn)) : mqS S1 V1 F1 xs1 ys1 vs1 Gp P y N G9 L t b k p m u e inp := by
  obtain ⟨hO, hK, hG, hh, h369, hlow, h368⟩ := h
  obtain ⟨-, -, ⟨hy, hP⟩, ⟨hN, -⟩, -⟩ := hT9
  refine ⟨o1, hQ, hG.sf hN hu (fun x hx => ?_) hv, hh.sf hu (by decide), hu.at h369 (by decide), hlow.sf hu (LBc_low o1 hQ h8), h8⟩
  have hb : x = 290 ∨ (340 < x ∧ x < 371) := (show ∀ x ∈ LBc, x = 290 ∨ (340 < x ∧ x < 371) by decide) x hx
  omega
theorem mqS.ms {S S1 : ks_S} {V : Nat → Value} {F : Nat} {xs ys : List (List Nat)} {vs : Vs} {Gp : Pt} {P y N L t b k p m u e inp : Nat} {G9 : Nat → Nat} {V1 : Nat → Value} {F1 : Nat} {xs1 ys1 : List (List Nat)} {vs1 : Vs} (h : mqS S V F xs ys vs Gp P y N G9 L t b k p m u e inp) (hT9 : mqT P y N G9 k u e inp) (hu : msK S S1 V V1 F F1) (hQ : rsQ S1 V1 F1 xs1 ys1 vs1) : mqS S1 V1 F1 xs1 ys1 vs1 Gp P y N G9 L t b k p m u e inp :=
  h.bc hT9 (hu.1.mono (by decide)) hu.2.1 (fun j hj => hu.2.2 j (by omega) (by omega) (by omega)) hQ (by
    obtain ⟨-, -, -, -, -, -, dn, h8⟩ := h
    exact ⟨dn, hu.1.at h8 (by decide)⟩)
/-- a step of looking at signatures -/
theorem mqS.gd {S S1 : ks_S} {V : Nat → Value} {F : Nat} {xs ys : List (List Nat)} {vs : Vs} {Gp : Pt} {P y N L t b k p m u e inp : Nat} {G9 : Nat → Nat} {V1 : Nat → Value} (h : mqS S V F xs ys vs Gp P y N G9 L t b k p m u e inp) (hu : gdK S S1 V V1) (hg : gdS S1 V1 Gp P y N G9 L t b k p m u e inp) : mqS S1 V1 F xs ys vs Gp P y N G9 L t b k p m u e inp := by
  obtain ⟨hO, hK, hG, hh, h369, hlow, dn, h368⟩ := h
  have hv := hu.2.2
  refine ⟨hu.2.1, (hK.up hu.1 (by decide) (hG.non hO)).val ⟨hv _ (by decide) (by decide) (by decide) (by decide) (by decide) (by decide) (by decide) (by decide), hv _ (by decide) (by decide) (by decide) (by decide) (by decide) (by decide) (by decide) (by decide), hv _ (by decide) (by decide) (by decide) (by decide) (by decide) (by decide) (by decide) (by decide)⟩, hg, ?_, hu.1.at h369 (by decide), hlow.sf (sfK.of (F := 0) hu.1) (hg.non hu.2.1), dn, hu.1.at h368 (by decide)⟩
  obtain ⟨-, m, -, g, kg, e⟩ := hh
  exact ⟨hg.2.2.1.1, m.up hu.1 (by decide), hg.2.2.1.2, g, kg, hu.1.at e (by decide)⟩
/-- the code that is signed changes -/
theorem gdS.ct {S S1 : ks_S} {Gp : Pt} {P y N L t b k p m u e inp : Nat} {G9 : Nat → Nat} {V V1 : Nat → Value} {c : List Nat} (h : gdS S V Gp P y N G9 L t b k p m u e inp) (hT9 : mqT P y N G9 k u e inp) (hu : ctK S S1 V V1) (hc : ctX S1 V1 c) : gdS S1 V1 Gp P y N G9 L t b k p m u e inp := by
  obtain ⟨-, -, ⟨hy, hP⟩, -, -⟩ := hT9
  obtain ⟨h1, ⟨v1, v2, v3⟩, ⟨h2, g5, k5, h3⟩, ⟨g6, k6, h4⟩, ⟨Y, h5⟩, -, h7⟩ := h
  have hv := hu.2.2
  exact ⟨h1.up hu.1 (fun x hx => by have hb : x < 373 := (show ∀ x ∈ LCt, x < 373 by decide) x hx; omega), ⟨(hv _ (by decide) (by decide) (by decide) (by decide)).trans v1, (hv _ (by decide) (by decide) (by decide) (by decide)).trans v2, (hv _ (by decide) (by decide) (by decide) (by decide)).trans v3⟩, ⟨h2.up hu.1 (by decide), g5, k5, hu.1.at h3 (by decide)⟩, ⟨g6, k6, hu.1.at h4 (by decide)⟩, ⟨Y, h5.up hu.1 (by decide) (hv _ (by decide) (by decide) (by decide) (by decide))⟩, ⟨c, hc⟩, h7.up hu.1 (by decide)⟩
/-- what is signed fits its row -/
theorem gdS.fit {S : ks_S} {Gp : Pt} {P y N L t b k p m u e inp : Nat} {G9 : Nat → Nat} {V : Nat → Value} (h : gdS S V Gp P y N G9 L t b k p m u e inp) (hT9 : mqT P y N G9 k u e inp) {c : List Nat} (hc : c.length ≤ 1600) : ∀ ty, ty < 256 → ¬ (ty % 32 = 3 ∧ m ≤ inp) → (sgL G9 L b k p m u e inp ty (fl_ (fun o _ => decide (o = 171)) c)).length ≤ 16000 := fun ty _ h3 => by
  obtain ⟨⟨g, A, c9, -, -, -, htx, -⟩, -⟩ := h
  obtain ⟨-, hi, -, -, he⟩ := hT9
  exact Nat.le_trans (sgL_le htx hi (Nat.le_trans (fl_len _ _ _ (Nat.le_refl _)) hc) he h3) (by decide)
theorem mqT.ds {P y N k u e inp : Nat} {G9 : Nat → Nat} (hT9 : mqT P y N G9 k u e inp) : hsD P y ∧ (∀ x ∈ LGd, x ≠ y ∧ (x < P ∨ P + 6 < x)) := by
  obtain ⟨-, -, ⟨hy, hP⟩, -, -⟩ := hT9
  exact ⟨fun x hx => by have hb : x < 564 := (show ∀ x ∈ LHs, x < 564 by decide) x hx; omega, fun x hx => by have hb : x < 564 := (show ∀ x ∈ LGd, x < 564 by decide) x hx; omega⟩
/-- a script's row -/
def cdQ (S : ks_S) (cy Nc till : Nat) (gc : Nat → Nat) : Prop := ∃ g1, kO g1 ∧ S.2.2 cy = some (kB Nc g1) ∧ ∀ j, j < till → g1 j = gc j
/-- what a script's row is: a block's, or the top of the saved stack -/
def cdK (vs : Vs) (cy Nc till : Nat) (gc : Nat → Nat) : Prop := (562 < cy ∧ Nc ≠ 1700 ∧ Nc < 2 ^ 20 ∧ till ≤ Nc) ∧ (Nc ≠ 520 ∨ (Nc = 520 ∧ 0 < vs.2.length ∧ vs.1 (vs.2.length - 1) = some cy ∧ till ≤ (vs.2.getD 0 []).length ∧ ∀ j, j < till → gc j = (vs.2.getD 0 []).getD j 0))
theorem cdQ.step {S S1 : ks_S} {V1 : Nat → Value} {F F' F1 : Nat} {L : List Nat} {xs ys : List (List Nat)} {vs : Vs} {cy Nc till : Nat} {gc : Nat → Nat} (h : cdQ S cy Nc till gc) (hk : cdK vs cy Nc till gc) (hu : sfK L S S1 F F') (hL : ∀ x ∈ L, x < 563) (hQ : rsQ S1 V1 F1 xs ys vs) : cdQ S1 cy Nc till gc := by
  obtain ⟨⟨h1, -, -, -⟩, h2 | ⟨h2, h3, h4, h5, h6⟩⟩ := hk
  · obtain ⟨g1, kg, e, q⟩ := h
    exact ⟨g1, kg, hu.2 _ _ e (fun hm => by have := hL _ hm; omega) (fun g hg => h2 (kB_lq hg)), q⟩
  · obtain ⟨T, sz, oz, vz, ⟨-, -, -, -, -, -, hv, hU⟩, -⟩ := hQ
    obtain ⟨r, g, e1, e2, e3, e4, e5⟩ := hv (vs.2.length - 1) (by omega)
    rw [hU, h4] at e1
    have er := Option.some.inj e1
    rw [Nat.sub_self] at e5
    refine ⟨g, e3, by rw [er, h2]; exact e2, fun j hj => ?_⟩
    rw [h6 j hj, e5, bytL_at _ _ _ (by rw [e5, bytL_len] at h5; omega), Nat.zero_add]
theorem cdQ.ne {S : ks_S} {T : Nat → Nat → Option Nat} {vs : Vs} {cy Nc till : Nat} {gc : Nat → Nat} (h : cdQ S cy Nc till gc) (hk : cdK vs cy Nc till gc) (hT : tbS S T) (hU : T 2 = vs.1) (j : Nat) : T 0 j ≠ some cy := fun h0 => by
  obtain ⟨-, h2 | ⟨-, -, h4, -⟩⟩ := hk
  · obtain ⟨g1, kg, e, q⟩ := h
    obtain ⟨-, g9, -, h9⟩ := hT.2.2.1 _ _ _ h0
    rw [e] at h9
    exact h2 (kB_lq (Option.some.inj h9))
  · rw [← hU] at h4
    have := (hT.2.1 _ _ _ _ _ h0 h4).1
    omega
theorem opR.mq {S S1 : ks_S} {V : Nat → Value} {F : Nat} {xs ys : List (List Nat)} {vs : Vs} {Gp : Pt} {P y N L t b k p m u e inp : Nat} {G9 : Nat → Nat} {r : Option (List (List Nat) × List (List Nat))} (h : mqS S V F xs ys vs Gp P y N G9 L t b k p m u e inp) (hT9 : mqT P y N G9 k u e inp) (hr : opR S S1 V F r vs) : mqR S S1 V F r vs Gp P y N G9 L t b k p m u e inp := by
  obtain ⟨V', F', xs', ys', h1, h2, h3⟩ := hr
  exact ⟨V', F', xs', ys', mqK.ms h1, h.ms hT9 h1 h2, h3⟩
theorem mqR.after {S S1 S2 : ks_S} {V V1 : Nat → Value} {F F1 : Nat} {vs : Vs} {Gp : Pt} {P y N L t b k p m u e inp : Nat} {G9 : Nat → Nat} {r : Option (List (List Nat) × List (List Nat))} (hk : mqK S S1 V V1 F F1) (h : mqR S1 S2 V1 F1 r vs Gp P y N G9 L t b k p m u e inp) : mqR S S2 V F r vs Gp P y N G9 L t b k p m u e inp := by
  obtain ⟨V', F', xs', ys', h1, h2, h3⟩ := h
  exact ⟨V', F', xs', ys', hk.trans h1, h2, h3⟩
theorem mqS.fail {S : ks_S} {V : Nat → Value} {F : Nat} {xs ys : List (List Nat)} {vs : Vs} {Gp : Pt} {P y N L t b k p m u e inp : Nat} {G9 : Nat → Nat} {r : Option (List (List Nat) × List (List Nat))} (h : mqS S V F xs ys vs Gp P y N G9 L t b k p m u e inp) (hT9 : mqT P y N G9 k u e inp) (hr : ∀ q, r = some q → 1000 < q.1.length + q.2.length) : mqR S (ks_set S 290 (rfE (va_up V 74 (.int (ks_bo true))))) V F r vs Gp P y N G9 L t b k p m u e inp := by
  obtain ⟨h1, h2⟩ := msK.fail h.1 h.2.1
  exact ⟨_, F, xs, ys, mqK.ms h1, h.ms hT9 h1 h2, .inr ⟨va_up_self _ _ _, hr⟩⟩
