/-! THE CURVE: what class and reference reckon are sums and multiples -/
theorem fp_ex : ∃ (F : Type) (_ : Lean.Grind.CommRing F) (c : Nat → F) (vl : F → Nat), fdC c vl := by
  haveI : NeZero pP := ⟨by decide⟩
  refine ⟨Fin pP, inferInstance, fun a => Fin.ofNat pP a, fun x => x.val, fun a b => ?_, fun a b => ?_, ?_, fun x => x.isLt, fun x => ?_, fun a => rfl⟩
  · apply Fin.ext
    show a * b % pP = (a % pP) * (b % pP) % pP
    exact Nat.mul_mod _ _ _
  · apply Fin.ext
    show (a + b) % pP = ((a % pP) + (b % pP)) % pP
    exact Nat.add_mod _ _ _
  · rfl
  · apply Fin.ext
    show x.val % pP = x.val
    exact Nat.mod_eq_of_lt x.isLt
noncomputable def jpE {F : Type} [Lean.Grind.CommRing F] (c : Nat → F) (vl : F → Nat) (P : Pt) : Option (F × F) := jcE (ivF c vl) (cTr c P)
theorem aM_lp (a b : Nat) : aM a b ≤ pP := Nat.le_of_lt (Nat.mod_lt _ (by decide))
theorem sM_ltp (a b : Nat) : sM a b < pP := Nat.mod_lt _ (by decide)
theorem sM_l (a b : Nat) : sM a b ≤ pP := Nat.le_of_lt (sM_ltp a b)
theorem dbS_l (x y : Nat) : dbS x y ≤ pP := aM_lp _ _
theorem dbX_l (x y : Nat) : dbX x y ≤ pP := sM_l _ _
theorem dbE_l (y : Nat) : dbE y ≤ pP := aM_lp _ _
theorem adU_l (x y : Nat) : adU x y ≤ pP := mM_l _ _
theorem adV_l (x y : Nat) : adV x y ≤ pP := mM_l _ _
theorem adX_l (u h r : Nat) : adX u h r ≤ pP := sM_l _ _
theorem ptH_lt (P Q : Pt) : ptH P Q < pP := sM_ltp _ _
theorem ptK_lt (P Q : Pt) : ptK P Q < pP := sM_ltp _ _
theorem fdC.dM {F : Type} [Lean.Grind.CommRing F] {c : Nat → F} {vl : F → Nat} (h : fdC c vl) (x : Nat) : c (dbM x) = qdM (c x) := by unfold dbM qdM; simp only [h.mm, h.aa]
theorem fdC.dS {F : Type} [Lean.Grind.CommRing F] {c : Nat → F} {vl : F → Nat} (h : fdC c vl) (x y : Nat) : c (dbS x y) = qdS (c x) (c y) := by unfold dbS qdS; simp only [h.mm, h.aa]
theorem fdC.dE {F : Type} [Lean.Grind.CommRing F] {c : Nat → F} {vl : F → Nat} (h : fdC c vl) (y : Nat) : c (dbE y) = qdE (c y) := by unfold dbE qdE; simp only [h.mm, h.aa]
theorem fdC.dX {F : Type} [Lean.Grind.CommRing F] {c : Nat → F} {vl : F → Nat} (h : fdC c vl) (x y : Nat) : c (dbX x y) = qdX (c x) (c y) := by
  unfold dbX qdX
  rw [h.ss _ (dbS_l x y), h.ss _ (dbS_l x y), h.mm, h.dM, h.dS]
theorem fdC.dY {F : Type} [Lean.Grind.CommRing F] {c : Nat → F} {vl : F → Nat} (h : fdC c vl) (x y : Nat) : c (dbY x y) = qdY (c x) (c y) := by
  unfold dbY qdY
  rw [h.ss _ (dbE_l y), h.mm, h.ss _ (dbX_l x y), h.dS, h.dX, h.dM, h.dE]
theorem fdC.dT {F : Type} [Lean.Grind.CommRing F] {c : Nat → F} {vl : F → Nat} (h : fdC c vl) (P : Pt) : cTr c (ptD P) = qdT (cTr c P) := by
  refine Prod.ext (h.dX _ _) (Prod.ext (h.dY _ _) ?_)
  show c (aM (mM P.2.1 P.2.2) (mM P.2.1 P.2.2)) = c P.2.1 * c P.2.2 + c P.2.1 * c P.2.2
  rw [h.aa, h.mm]
theorem fdC.aU {F : Type} [Lean.Grind.CommRing F] {c : Nat → F} {vl : F → Nat} (h : fdC c vl) (x z : Nat) : c (adU x z) = qaU (c x) (c z) := by unfold adU qaU; rw [h.mm, h.mm]
theorem fdC.aV {F : Type} [Lean.Grind.CommRing F] {c : Nat → F} {vl : F → Nat} (h : fdC c vl) (x z : Nat) : c (adV x z) = qaV (c x) (c z) := by unfold adV qaV; rw [h.mm, h.mm, h.mm]
theorem fdC.aH {F : Type} [Lean.Grind.CommRing F] {c : Nat → F} {vl : F → Nat} (h : fdC c vl) (P Q : Pt) : c (ptH P Q) = qaH (c P.1) (c P.2.2) (c Q.1) (c Q.2.2) := by
  unfold ptH adH qaH
  rw [h.ss _ (adU_l _ _), h.mm, h.mm, h.aU]
theorem fdC.aK {F : Type} [Lean.Grind.CommRing F] {c : Nat → F} {vl : F → Nat} (h : fdC c vl) (P Q : Pt) : c (ptK P Q) = qaK (c P.2.1) (c P.2.2) (c Q.2.1) (c Q.2.2) := by
  unfold ptK adR qaK
  rw [h.ss _ (adV_l _ _), h.mm, h.mm, h.mm, h.aV]
theorem fdC.aX {F : Type} [Lean.Grind.CommRing F] {c : Nat → F} {vl : F → Nat} (h : fdC c vl) (u k w : Nat) : c (adX u k w) = qaX (c u) (c k) (c w) := by
  unfold adX qaX
  rw [h.ss _ (mM_l _ _), h.ss _ (mM_l _ _), h.ss _ (mM_l _ _)]
  simp only [h.mm]
theorem fdC.aY {F : Type} [Lean.Grind.CommRing F] {c : Nat → F} {vl : F → Nat} (h : fdC c vl) (u v k w : Nat) : c (adY u v k w) = qaY (c u) (c v) (c k) (c w) := by
  unfold adY qaY
  rw [h.ss _ (mM_l _ _), h.mm, h.ss _ (adX_l _ _ _), h.aX]
  simp only [h.mm]
/-- the sum of two points with another x -/
def adT (P Q : Pt) : Pt := (adX (adU P.1 Q.2.2) (ptH P Q) (ptK P Q), adY (adU P.1 Q.2.2) (adV P.2.1 Q.2.2) (ptH P Q) (ptK P Q), adZ P.2.2 Q.2.2 (ptH P Q))
theorem fdC.aT {F : Type} [Lean.Grind.CommRing F] {c : Nat → F} {vl : F → Nat} (h : fdC c vl) (P Q : Pt) : cTr c (adT P Q) = qaT (cTr c P) (cTr c Q) := by
  refine Prod.ext ?_ (Prod.ext ?_ ?_)
  · show c (adX _ _ _) = qaX (qaU (c P.1) (c Q.2.2)) (qaH (c P.1) (c P.2.2) (c Q.1) (c Q.2.2)) (qaK (c P.2.1) (c P.2.2) (c Q.2.1) (c Q.2.2))
    rw [h.aX, h.aU, h.aH, h.aK]
  · show c (adY _ _ _ _) = qaY (qaU (c P.1) (c Q.2.2)) (qaV (c P.2.1) (c Q.2.2)) (qaH (c P.1) (c P.2.2) (c Q.1) (c Q.2.2)) (qaK (c P.2.1) (c P.2.2) (c Q.2.1) (c Q.2.2))
    rw [h.aY, h.aU, h.aV, h.aH, h.aK]
  · show c (mM (mM P.2.2 Q.2.2) (ptH P Q)) = c P.2.2 * c Q.2.2 * qaH (c P.1) (c P.2.2) (c Q.1) (c Q.2.2)
    rw [h.mm, h.mm, h.aH]
theorem jp_0 {F : Type} [Lean.Grind.CommRing F] {c : Nat → F} {vl : F → Nat} (h : fdC c vl) {P : Pt} (e : P.2.2 = 0) : jpE c vl P = none := jcE_0 (by show c P.2.2 = 0; rw [e, h.c0])
theorem jp_n {F : Type} [Lean.Grind.CommRing F] {c : Nat → F} {vl : F → Nat} (h : fdC c vl) {P : Pt} (hL : P.2.2 < pP) (e : jpE c vl P = none) : P.2.2 = 0 := (h.z hL).mp (jcE_n e)
theorem jp_D {F : Type} [Lean.Grind.CommRing F] {c : Nat → F} {vl : F → Nat} (h : fdC c vl) {P : Pt} (o : onE (jpE c vl P)) : jpE c vl (ptD P) = gaE (ivF c vl) (jpE c vl P) (jpE c vl P) := by
  unfold jpE
  rw [h.dT]
  exact jc_db h.g o
theorem jp_F {F : Type} [Lean.Grind.CommRing F] {c : Nat → F} {vl : F → Nat} (h : fdC c vl) {P Q : Pt} (lP : P.2.2 < pP) (lQ : Q.2.2 < pP) (z1 : P.2.2 ≠ 0) (z2 : Q.2.2 ≠ 0) (oP : onE (jpE c vl P)) (oQ : onE (jpE c vl Q)) : (ptH P Q = 0 → ptK P Q = 0 → jpE c vl P = jpE c vl Q) ∧ (ptH P Q = 0 → ptK P Q ≠ 0 → gaE (ivF c vl) (jpE c vl P) (jpE c vl Q) = none) ∧ (ptH P Q ≠ 0 → jpE c vl (adT P Q) = gaE (ivF c vl) (jpE c vl P) (jpE c vl Q)) := by
  have y1 : (cTr c P).2.2 ≠ 0 := fun e => z1 ((h.z lP).mp e)
  have y2 : (cTr c Q).2.2 ≠ 0 := fun e => z2 ((h.z lQ).mp e)
  obtain ⟨a, b, d⟩ := jc_ad h.g y1 y2 oP oQ
  have iH : ptH P Q = 0 ↔ qaH (cTr c P).1 (cTr c P).2.2 (cTr c Q).1 (cTr c Q).2.2 = 0 := by
    show _ ↔ qaH (c P.1) (c P.2.2) (c Q.1) (c Q.2.2) = 0
    rw [← h.aH, h.z (ptH_lt P Q)]
  have iK : ptK P Q = 0 ↔ qaK (cTr c P).2.1 (cTr c P).2.2 (cTr c Q).2.1 (cTr c Q).2.2 = 0 := by
    show _ ↔ qaK (c P.2.1) (c P.2.2) (c Q.2.1) (c Q.2.2) = 0
    rw [← h.aK, h.z (ptK_lt P Q)]
  refine ⟨fun x y => a (iH.mp x) (iK.mp y), fun x y => b (iH.mp x) (fun w => y (iK.mpr w)), fun x => ?_⟩
  unfold jpE
  rw [h.aT]
  exact d (fun w => x (iH.mpr w))
theorem adT_0 {P Q : Pt} (e : ptH P Q = 0) : (adT P Q).2.2 = 0 := by
  show mM (mM P.2.2 Q.2.2) (ptH P Q) = 0
  rw [e, mM_0]
theorem jp_S {F : Type} [Lean.Grind.CommRing F] {c : Nat → F} {vl : F → Nat} (h : fdC c vl) {P Q : Pt} (lP : P.2.2 < pP) (lQ : Q.2.2 < pP) (z2 : Q.2.2 ≠ 0) (oP : onE (jpE c vl P)) (oQ : onE (jpE c vl Q)) : jpE c vl (ptS P Q) = gaE (ivF c vl) (jpE c vl P) (jpE c vl Q) := by
  by_cases z1 : P.2.2 = 0
  · rw [ptS_z z1, jp_0 h z1, gaE_o h.g oQ]
  · obtain ⟨a, b, d⟩ := jp_F h lP lQ z1 z2 oP oQ
    by_cases c1 : ptH P Q = 0 ∧ ptK P Q = 0
    · have e : ptS P Q = ptD P := by
        unfold ptS ptB
        rw [decide_eq_false z1, decide_eq_true c1]
        rfl
      rw [e, jp_D h oP, a c1.1 c1.2]
    · have e : ptS P Q = adT P Q := by
        unfold ptS ptB ptO
        rw [decide_eq_false z1, decide_eq_false c1, if_neg z1, if_neg c1]
        rfl
      rw [e]
      by_cases c2 : ptH P Q = 0
      · rw [jp_0 h (adT_0 c2), b c2 (fun w => c1 ⟨c2, w⟩)]
      · exact d c2
theorem jp_rD {F : Type} [Lean.Grind.CommRing F] {c : Nat → F} {vl : F → Nat} (h : fdC c vl) {P : Pt} (o : onE (jpE c vl P)) : jpE c vl (rfD P) = gaE (ivF c vl) (jpE c vl P) (jpE c vl P) := by
  unfold rfD
  by_cases z : P.2.2 = 0
  · rw [if_pos z, jp_0 h z, gaE_o h.g (P := none) trivial]
  · rw [if_neg z]
    exact jp_D h o
theorem jp_rA {F : Type} [Lean.Grind.CommRing F] {c : Nat → F} {vl : F → Nat} (h : fdC c vl) {P Q : Pt} (lP : P.2.2 < pP) (lQ : Q.2.2 < pP) (oP : onE (jpE c vl P)) (oQ : onE (jpE c vl Q)) : jpE c vl (rfA P Q) = gaE (ivF c vl) (jpE c vl P) (jpE c vl Q) := by
  unfold rfA
  by_cases z2 : Q.2.2 = 0
  · rw [if_pos z2, jp_0 h z2, gaE_o2 h.g oP]
  · rw [if_neg z2]
    by_cases z1 : P.2.2 = 0
    · rw [if_pos z1, jp_0 h z1, gaE_o h.g oQ]
    · rw [if_neg z1]
      obtain ⟨a, b, d⟩ := jp_F h lP lQ z1 z2 oP oQ
      by_cases c2 : ptH P Q = 0
      · rw [if_pos c2]
        by_cases c3 : ptK P Q = 0
        · rw [if_pos c3, jp_rD h oP, a c2 c3]
        · rw [if_neg c3, b c2 c3]
          exact jp_0 h rfl
      · rw [if_neg c2]
        exact d c2
theorem ptD_z (P : Pt) : (ptD P).2.2 < pP := (ptD_L P).2.2
theorem rfD_z {P : Pt} (l : P.2.2 < pP) : (rfD P).2.2 < pP := by
  unfold rfD
  split
  · exact l
  · exact ptD_z P
theorem rfA_z {P Q : Pt} (lP : P.2.2 < pP) (lQ : Q.2.2 < pP) : (rfA P Q).2.2 < pP := by
  unfold rfA
  split
  · exact lP
  · split
    · exact lQ
    · split
      · split
        · exact rfD_z lP
        · show 0 < pP
          decide
      · exact mM_lt _ _
/-- bit by bit -/
theorem jp_rm {F : Type} [Lean.Grind.CommRing F] {c : Nat → F} {vl : F → Nat} (h : fdC c vl) {P : Pt} (lP : P.2.2 < pP) (oP : onE (jpE c vl P)) (U : Nat) : ∀ (k : Nat) (Q : Pt), Q.2.2 < pP → onE (jpE c vl Q) → jpE c vl (rmL P U k Q) = gaE (ivF c vl) (muE (ivF c vl) (2 ^ k) (jpE c vl Q)) (muE (ivF c vl) (U % 2 ^ k) (jpE c vl P)) ∧ (rmL P U k Q).2.2 < pP
  | 0, Q, lQ, oQ => by
    refine ⟨?_, lQ⟩
    rw [Nat.pow_zero, Nat.mod_one, muE_1 h.g oQ]
    exact (gaE_o2 h.g oQ).symm
  | k + 1, Q, lQ, oQ => by
    have hg := h.g
    have ha := h.as
    have oD := gaE_on hg oQ oQ
    have e0 : muE (ivF c vl) (2 ^ (k + 1)) (jpE c vl Q) = muE (ivF c vl) (2 ^ k) (gaE (ivF c vl) (jpE c vl Q) (jpE c vl Q)) := by
      rw [Nat.pow_succ, muE_mul hg ha oQ]
      congr 1
      show gaE _ (muE _ 1 _) _ = _
      rw [muE_1 hg oQ]
    show jpE c vl (rmL P U k (if U / 2 ^ k % 2 = 1 then rfA (rfD Q) P else rfD Q)) = _ ∧ (rmL P U k (if U / 2 ^ k % 2 = 1 then rfA (rfD Q) P else rfD Q)).2.2 < pP
    by_cases b : U / 2 ^ k % 2 = 1
    · rw [if_pos b]
      have e1 : jpE c vl (rfA (rfD Q) P) = gaE (ivF c vl) (gaE (ivF c vl) (jpE c vl Q) (jpE c vl Q)) (jpE c vl P) := by
        rw [jp_rA h (rfD_z lQ) lP (by rw [jp_rD h oQ]; exact oD) oP, jp_rD h oQ]
      have ih := jp_rm h lP oP U k (rfA (rfD Q) P) (rfA_z (rfD_z lQ) lP) (by rw [e1]; exact gaE_on hg oD oP)
      refine ⟨?_, ih.2⟩
      have e2 : U % 2 ^ (k + 1) = 2 ^ k + U % 2 ^ k := by
        rw [Nat.pow_succ, Nat.mod_mul, b]
        omega
      rw [ih.1, e1, e0, e2, muE_add hg ha oP, muE_dist hg ha oD oP, gaE_as hg ha (muE_on hg oD _) (muE_on hg oP _) (muE_on hg oP _)]
    · rw [if_neg b]
      have e1 := jp_rD h oQ
      have ih := jp_rm h lP oP U k (rfD Q) (rfD_z lQ) (by rw [e1]; exact oD)
      refine ⟨?_, ih.2⟩
      have e2 : U % 2 ^ (k + 1) = U % 2 ^ k := by
        rw [Nat.pow_succ, Nat.mod_mul, show U / 2 ^ k % 2 = 0 by omega]
        omega
      rw [ih.1, e1, e0, e2]
