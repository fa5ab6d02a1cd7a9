/-! THE CURVE: tables of multiples, four bits at a time -/
theorem ptO_a {P Q o : Pt} (z1 : P.2.2 ≠ 0) (hn : ¬ (ptH P Q = 0 ∧ ptK P Q = 0)) : ptO P Q o = adT P Q := by
  unfold ptO
  rw [if_neg z1, if_neg hn]
  rfl
theorem jp_O {F : Type} [Lean.Grind.CommRing F] {c : Nat → F} {vl : F → Nat} (h : fdC c vl) {P Q o : Pt} (lP : P.2.2 < pP) (lQ : Q.2.2 < pP) (z1 : P.2.2 ≠ 0) (z2 : Q.2.2 ≠ 0) (oP : onE (jpE c vl P)) (oQ : onE (jpE c vl Q)) (ne : jpE c vl P ≠ jpE c vl Q) : jpE c vl (ptO P Q o) = gaE (ivF c vl) (jpE c vl P) (jpE c vl Q) ∧ ptO P Q o = adT P Q ∧ (ptO P Q o).2.2 < pP := by
  obtain ⟨a, b, d⟩ := jp_F h lP lQ z1 z2 oP oQ
  have hn : ¬ (ptH P Q = 0 ∧ ptK P Q = 0) := fun x => ne (a x.1 x.2)
  have e := ptO_a (o := o) z1 hn
  refine ⟨?_, e, ?_⟩
  · rw [e]
    by_cases c2 : ptH P Q = 0
    · rw [jp_0 h (adT_0 c2), b c2 (fun w => hn ⟨c2, w⟩)]
    · exact d c2
  · rw [e]
    exact mM_lt _ _
/-- a point of which no multiple up to fifteen is none -/
def smO {F : Type} [Lean.Grind.CommRing F] (c : Nat → F) (vl : F → Nat) (P : Pt) : Prop := P.2.2 < pP ∧ onE (jpE c vl P) ∧ ∀ t, 0 < t → t ≤ 15 → muE (ivF c vl) t (jpE c vl P) ≠ none
theorem smO.z {F : Type} [Lean.Grind.CommRing F] {c : Nat → F} {vl : F → Nat} (h : fdC c vl) {P : Pt} (hs : smO c vl P) : P.2.2 ≠ 0 := fun e => hs.2.2 1 (by omega) (by omega) (by rw [muE_1 h.g hs.2.1, jp_0 h e])
theorem smO.ne {F : Type} [Lean.Grind.CommRing F] {c : Nat → F} {vl : F → Nat} (h : fdC c vl) {P : Pt} (hs : smO c vl P) {t : Nat} (h0 : 0 < t) (ht : t ≤ 15) : muE (ivF c vl) (t + 1) (jpE c vl P) ≠ jpE c vl P := fun e => by
  refine hs.2.2 t h0 ht (gaE_can h.g h.as hs.2.1 (muE_on h.g hs.2.1 t) (Q := none) trivial ?_)
  rw [gaE_comm, gaE_o2 h.g hs.2.1]
  exact e
/-- any row of multiples -/
theorem jp_tb {F : Type} [Lean.Grind.CommRing F] {c : Nat → F} {vl : F → Nat} (h : fdC c vl) {P : Pt} (hs : smO c vl P) {K : Nat → Pt} (k0 : K 0 = P) (k1 : K 1 = ptD P) (k2 : ∀ i, i < 13 → ∃ o, K (i + 2) = ptO (K (i + 1)) P o) : ∀ i, i < 15 → jpE c vl (K i) = muE (ivF c vl) (i + 1) (jpE c vl P) ∧ (K i).2.2 < pP
  | 0, _ => by
    rw [k0, muE_1 h.g hs.2.1]
    exact ⟨rfl, hs.1⟩
  | 1, _ => by
    rw [k1, jp_D h hs.2.1]
    refine ⟨?_, ptD_z P⟩
    show _ = gaE _ (muE _ 1 _) _
    rw [muE_1 h.g hs.2.1]
  | i + 2, hi => by
    obtain ⟨o, e⟩ := k2 i (by omega)
    obtain ⟨ih, il⟩ := jp_tb h hs k0 k1 k2 (i + 1) (by omega)
    have oK : onE (jpE c vl (K (i + 1))) := by rw [ih]; exact muE_on h.g hs.2.1 _
    have z1 : (K (i + 1)).2.2 ≠ 0 := fun z => hs.2.2 (i + 1 + 1) (by omega) (by omega) (by rw [← ih, jp_0 h z])
    have q := jp_O h (o := o) il hs.1 z1 (hs.z h) oK hs.2.1 (by rw [ih]; exact hs.ne h (by omega) (by omega))
    rw [e]
    refine ⟨?_, q.2.2⟩
    rw [q.1, ih]
    rfl
theorem tb_eq {F : Type} [Lean.Grind.CommRing F] {c : Nat → F} {vl : F → Nat} (h : fdC c vl) {P : Pt} (hs : smO c vl P) {K K' : Nat → Pt} (k0 : K 0 = P) (k1 : K 1 = ptD P) (k2 : ∀ i, i < 13 → ∃ o, K (i + 2) = ptO (K (i + 1)) P o) (k0' : K' 0 = P) (k1' : K' 1 = ptD P) (k2' : ∀ i, i < 13 → ∃ o, K' (i + 2) = ptO (K' (i + 1)) P o) : ∀ i, i < 15 → K i = K' i
  | 0, _ => k0.trans k0'.symm
  | 1, _ => k1.trans k1'.symm
  | i + 2, hi => by
    obtain ⟨o, e⟩ := k2 i (by omega)
    obtain ⟨o', e'⟩ := k2' i (by omega)
    obtain ⟨ih, il⟩ := jp_tb h hs k0 k1 k2 (i + 1) (by omega)
    have oK : onE (jpE c vl (K (i + 1))) := by rw [ih]; exact muE_on h.g hs.2.1 _
    have z1 : (K (i + 1)).2.2 ≠ 0 := fun z => hs.2.2 (i + 1 + 1) (by omega) (by omega) (by rw [← ih, jp_0 h z])
    have ne : jpE c vl (K (i + 1)) ≠ jpE c vl P := by rw [ih]; exact hs.ne h (by omega) (by omega)
    have q := jp_O h (o := o) il hs.1 z1 (hs.z h) oK hs.2.1 ne
    have q' := jp_O h (o := o') il hs.1 z1 (hs.z h) oK hs.2.1 ne
    rw [e, e', ← tb_eq h hs k0 k1 k2 k0' k1' k2' (i + 1) (by omega), q.2.1, q'.2.1]
/-- what a table gives -/
def tbO {F : Type} [Lean.Grind.CommRing F] (c : Nat → F) (vl : F → Nat) (B : Nat → Pt) (g : Option (F × F)) : Prop := onE g ∧ ∀ i, i < 15 → (B i).2.2 < pP ∧ (B i).2.2 ≠ 0 ∧ jpE c vl (B i) = muE (ivF c vl) (i + 1) g
theorem tbO_of {F : Type} [Lean.Grind.CommRing F] {c : Nat → F} {vl : F → Nat} (h : fdC c vl) {P : Pt} (hs : smO c vl P) {K : Nat → Pt} (k0 : K 0 = P) (k1 : K 1 = ptD P) (k2 : ∀ i, i < 13 → ∃ o, K (i + 2) = ptO (K (i + 1)) P o) : tbO c vl K (jpE c vl P) :=
  ⟨hs.2.1, fun i hi => ⟨(jp_tb h hs k0 k1 k2 i hi).2, fun z => hs.2.2 (i + 1) (by omega) (by omega) (by rw [← (jp_tb h hs k0 k1 k2 i hi).1, jp_0 h z]), (jp_tb h hs k0 k1 k2 i hi).1⟩⟩
theorem mu_2 {F : Type} [Lean.Grind.CommRing F] {iv : F → F} (h : fdG iv) {P : Option (F × F)} (o : onE P) : gaE iv P P = muE iv 2 P := by
  show _ = gaE iv (muE iv 1 P) P
  rw [muE_1 h o]
theorem jp_16 {F : Type} [Lean.Grind.CommRing F] {c : Nat → F} {vl : F → Nat} (h : fdC c vl) {P : Pt} (o : onE (jpE c vl P)) : jpE c vl (ptD (ptD (ptD (ptD P)))) = muE (ivF c vl) 16 (jpE c vl P) := by
  have hg := h.g
  have ha := h.as
  have s : ∀ {Q : Pt}, onE (jpE c vl Q) → jpE c vl (ptD Q) = muE (ivF c vl) 2 (jpE c vl Q) ∧ onE (jpE c vl (ptD Q)) := fun {Q} oQ => by
    have e := (jp_D h oQ).trans (mu_2 hg oQ)
    exact ⟨e, by rw [e]; exact muE_on hg oQ 2⟩
  have a1 := s o
  have a2 := s a1.2
  have a3 := s a2.2
  have a4 := s a3.2
  rw [a4.1, a3.1, a2.1, a1.1, ← muE_mul hg ha o, ← muE_mul hg ha o, ← muE_mul hg ha o]
theorem jp_smA {F : Type} [Lean.Grind.CommRing F] {c : Nat → F} {vl : F → Nat} (h : fdC c vl) {B : Nat → Pt} {g : Option (F × F)} (hB : tbO c vl B g) {b : Nat} (hb : b < 16) {P : Pt} (lP : P.2.2 < pP) (oP : onE (jpE c vl P)) : jpE c vl (smA B b P) = gaE (ivF c vl) (jpE c vl P) (muE (ivF c vl) b g) ∧ (smA B b P).2.2 < pP := by
  unfold smA
  by_cases c0 : 0 < b
  · rw [if_pos c0]
    obtain ⟨l, z, e⟩ := hB.2 (b - 1) (by omega)
    rw [show b - 1 + 1 = b by omega] at e
    refine ⟨?_, ?_⟩
    · rw [jp_S h lP l z oP (by rw [e]; exact muE_on h.g hB.1 b), e]
    · unfold ptS ptB ptO
      by_cases z1 : P.2.2 = 0
      · rw [decide_eq_true z1, Bool.true_or, if_pos rfl, if_pos z1]
        exact l
      · rw [decide_eq_false z1, Bool.false_or, if_neg z1]
        by_cases c1 : ptH P (B (b - 1)) = 0 ∧ ptK P (B (b - 1)) = 0
        · rw [decide_eq_true c1]
          exact ptD_z P
        · rw [decide_eq_false c1, if_neg c1]
          exact mM_lt _ _
  · rw [if_neg c0, show b = 0 by omega]
    exact ⟨(gaE_o2 h.g oP).symm, lP⟩
theorem jp_sm {F : Type} [Lean.Grind.CommRing F] {c : Nat → F} {vl : F → Nat} (h : fdC c vl) {B K : Nat → Pt} {g k : Option (F × F)} (hB : tbO c vl B g) (hK : tbO c vl K k) (u v : Nat) : ∀ (m : Nat) (st : Pt × Bool), st.1.2.2 < pP → onE (jpE c vl st.1) → (st.2 = false → st.1.2.2 = 0) → jpE c vl (smL B K u v m st).1 = gaE (ivF c vl) (muE (ivF c vl) (16 ^ m) (jpE c vl st.1)) (gaE (ivF c vl) (muE (ivF c vl) (u % 16 ^ m) g) (muE (ivF c vl) (v % 16 ^ m) k)) ∧ (smL B K u v m st).1.2.2 < pP
  | 0, st, l, o, _ => by
    refine ⟨?_, l⟩
    rw [Nat.pow_zero, Nat.mod_one, Nat.mod_one, muE_1 h.g o]
    show jpE c vl st.1 = gaE _ (jpE c vl st.1) (gaE _ none none)
    rw [gaE_o h.g (P := none) trivial, gaE_o2 h.g o]
  | m + 1, st, l, o, hf => by
    have hg := h.g
    have ha := h.as
    have d1 : jpE c vl (smD st.2 st.1) = muE (ivF c vl) 16 (jpE c vl st.1) ∧ (smD st.2 st.1).2.2 < pP := by
      unfold smD
      cases e : st.2 with
      | true => exact ⟨jp_16 h o, ptD_z _⟩
      | false =>
        refine ⟨?_, l⟩
        show jpE c vl st.1 = _
        rw [jp_0 h (hf e), muE_n hg]
    have oX : onE (muE (ivF c vl) 16 (jpE c vl st.1)) := muE_on hg o 16
    have d2 := jp_smA h hB (dg4_lt u m) d1.2 (by rw [d1.1]; exact oX)
    have o2 : onE (jpE c vl (smA B (dg4 u m) (smD st.2 st.1))) := by rw [d2.1, d1.1]; exact gaE_on hg oX (muE_on hg hB.1 _)
    have d3 := jp_smA h hK (dg4_lt v m) d2.2 o2
    have o3 : onE (jpE c vl (smA K (dg4 v m) (smA B (dg4 u m) (smD st.2 st.1)))) := by rw [d3.1]; exact gaE_on hg o2 (muE_on hg hK.1 _)
    have ih := jp_sm h hB hK u v m (smStep B K (dg4 u m) (dg4 v m) st) d3.2 o3 (fun e => by
      have e1 : (st.2 || decide (0 < dg4 u m) || decide (0 < dg4 v m)) = false := e
      rw [Bool.or_eq_false_iff, Bool.or_eq_false_iff, decide_eq_false_iff_not, decide_eq_false_iff_not] at e1
      show (smA K (dg4 v m) (smA B (dg4 u m) (smD st.2 st.1))).2.2 = 0
      unfold smA smD
      rw [if_neg e1.2, if_neg e1.1.2, e1.1.1]
      exact hf e1.1.1)
    refine ⟨?_, ih.2⟩
    have ed : ∀ w, w % 16 ^ (m + 1) = 16 ^ m * dg4 w m + w % 16 ^ m := fun w => by
      unfold dg4
      rw [Nat.pow_succ, Nat.mod_mul, Nat.pow_mul, Nat.add_comm]
    show jpE c vl (smL B K u v m (smStep B K (dg4 u m) (dg4 v m) st)).1 = _
    rw [ih.1]
    show gaE (ivF c vl) (muE (ivF c vl) (16 ^ m) (jpE c vl (smA K (dg4 v m) (smA B (dg4 u m) (smD st.2 st.1))))) _ = _
    rw [d3.1, d2.1, d1.1, ed u, ed v, muE_add hg ha hB.1, muE_add hg ha hK.1, muE_mul hg ha hB.1, muE_mul hg ha hK.1]
    have oB := muE_on hg hB.1 (dg4 u m)
    have oK := muE_on hg hK.1 (dg4 v m)
    rw [muE_dist hg ha (gaE_on hg oX oB) oK, muE_dist hg ha oX oB, ← muE_mul hg ha o, ← Nat.pow_succ]
    have q1 := muE_on hg o (16 ^ (m + 1))
    have q2 := muE_on hg oB (16 ^ m)
    have q3 := muE_on hg oK (16 ^ m)
    have q4 := muE_on hg hB.1 (u % 16 ^ m)
    have q5 := muE_on hg hK.1 (v % 16 ^ m)
    rw [gaE_as hg ha q1 q2 q3, gaE_as hg ha q1 (gaE_on hg q2 q3) (gaE_on hg q4 q5), gaE_4 hg ha q2 q3 q4 q5]
/-- the first point -/
theorem gp_on : mM gYY gYY = ky3 gXX ∧ gXX < pP ∧ gYY < pP := by decide +kernel
theorem jp_aff {F : Type} [Lean.Grind.CommRing F] {c : Nat → F} {vl : F → Nat} (h : fdC c vl) (x y : Nat) : jpE c vl (x, y, 1) = some (c x, c y) := by
  refine jcE_some h.g (T := cTr c (x, y, 1)) (by show c 1 ≠ 0; rw [h.2.2.1]; exact h.n1) ?_ ?_
  · show c x = c x * (c 1 * c 1)
    rw [h.2.2.1]
    grind
  · show c y = c y * (c 1 * c 1 * c 1)
    rw [h.2.2.1]
    grind
theorem on_aff {F : Type} [Lean.Grind.CommRing F] {c : Nat → F} {vl : F → Nat} (h : fdC c vl) {x y : Nat} (e : mM y y = ky3 x) : onE (some (c x, c y)) := by
  have := congrArg c e
  unfold ky3 at this
  rw [h.mm, h.aa, h.mm, h.mm, h.c7] at this
  exact this
set_option maxRecDepth 100000 in
theorem gp_nN : (rmL (gXX, gYY, 1) nN 256 (0, 0, 0)).2.2 = 0 := by decide +kernel
theorem nN_b : nN < 2 ^ 256 ∧ nN % 2 = 1 ∧ pP % 2 = 1 ∧ 2 * pP + 1 < 3 * nN ∧ nN < pP ∧ 15 < nN := by decide +kernel
theorem rm_mu {F : Type} [Lean.Grind.CommRing F] {c : Nat → F} {vl : F → Nat} (h : fdC c vl) {P : Pt} (lP : P.2.2 < pP) (oP : onE (jpE c vl P)) {U : Nat} (hU : U < 2 ^ 256) : jpE c vl (rmL P U 256 (0, 0, 0)) = muE (ivF c vl) U (jpE c vl P) ∧ (rmL P U 256 (0, 0, 0)).2.2 < pP := by
  have z : jpE c vl (0, 0, 0) = none := jp_0 h rfl
  have := jp_rm h lP oP U 256 (0, 0, 0) (by show 0 < pP; decide) (by rw [z]; trivial)
  rw [z, muE_n h.g, gaE_o h.g (muE_on h.g oP _), Nat.mod_eq_of_lt hU] at this
  exact this
theorem gp_ord {F : Type} [Lean.Grind.CommRing F] {c : Nat → F} {vl : F → Nat} (h : fdC c vl) {P : Option (F × F)} (oP : onE P) (hP : P ≠ none) {t : Nat} (h0 : 0 < t) (ht : t < nN) : muE (ivF c vl) t P ≠ none := by
  have oG := on_aff h gp_on.1
  have e := rm_mu h (P := (gXX, gYY, 1)) (by show 1 < pP; decide) (by rw [jp_aff h]; exact oG) nN_b.1
  rw [jp_0 h gp_nN, jp_aff h] at e
  exact mu_all h.g h.as h.vi h.2.2.2.1 h.vn nN_b.2.2.1 nN_b.2.2.2.1 pr_N nN_b.2.1 oG (by intro x; cases x) e.1.symm oP hP h0 ht
theorem smO_of {F : Type} [Lean.Grind.CommRing F] {c : Nat → F} {vl : F → Nat} (h : fdC c vl) {x y : Nat} (e : mM y y = ky3 x) : smO c vl (x, y, 1) := by
  refine ⟨by show 1 < pP; decide, by rw [jp_aff h]; exact on_aff h e, fun t h0 ht => ?_⟩
  rw [jp_aff h]
  exact gp_ord h (on_aff h e) (by intro x; cases x) h0 (by have := nN_b.2.2.2.2.2; omega)
