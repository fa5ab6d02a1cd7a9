/-! THE CURVE over any field: points and their sums -/
def scT {F : Type} [Lean.Grind.CommRing F] (l : F) (T : F × F × F) : F × F × F := (l * T.1, l * T.2.1, l * T.2.2)
theorem cad_sc {F : Type} [Lean.Grind.CommRing F] (l m : F) (P Q : F × F × F) : cad (scT l P) (scT m Q) = scT (l * l * (m * m)) (cad P Q) := by
  unfold cad scT
  refine Prod.ext ?_ (Prod.ext ?_ ?_)
  · show ccX (l * P.1) (l * P.2.1) (l * P.2.2) (m * Q.1) (m * Q.2.1) (m * Q.2.2) = l * l * (m * m) * ccX P.1 P.2.1 P.2.2 Q.1 Q.2.1 Q.2.2
    unfold ccX
    grind
  · show ccY (l * P.1) (l * P.2.1) (l * P.2.2) (m * Q.1) (m * Q.2.1) (m * Q.2.2) = l * l * (m * m) * ccY P.1 P.2.1 P.2.2 Q.1 Q.2.1 Q.2.2
    unfold ccY
    grind
  · show ccZ (l * P.1) (l * P.2.1) (l * P.2.2) (m * Q.1) (m * Q.2.1) (m * Q.2.2) = l * l * (m * m) * ccZ P.1 P.2.1 P.2.2 Q.1 Q.2.1 Q.2.2
    unfold ccZ
    grind
theorem scT_1 {F : Type} [Lean.Grind.CommRing F] (P : F × F × F) : scT 1 P = P := by
  unfold scT
  refine Prod.ext ?_ (Prod.ext ?_ ?_)
  · show 1 * P.1 = P.1; grind
  · show 1 * P.2.1 = P.2.1; grind
  · show 1 * P.2.2 = P.2.2; grind
theorem cad_comm {F : Type} [Lean.Grind.CommRing F] (P Q : F × F × F) : cad P Q = cad Q P := by
  unfold cad
  refine Prod.ext ?_ (Prod.ext ?_ ?_)
  · show ccX P.1 P.2.1 P.2.2 Q.1 Q.2.1 Q.2.2 = ccX Q.1 Q.2.1 Q.2.2 P.1 P.2.1 P.2.2
    unfold ccX
    grind
  · show ccY P.1 P.2.1 P.2.2 Q.1 Q.2.1 Q.2.2 = ccY Q.1 Q.2.1 Q.2.2 P.1 P.2.1 P.2.2
    unfold ccY
    grind
  · show ccZ P.1 P.2.1 P.2.2 Q.1 Q.2.1 Q.2.2 = ccZ Q.1 Q.2.1 Q.2.2 P.1 P.2.1 P.2.2
    unfold ccZ
    grind
theorem cad_o {F : Type} [Lean.Grind.CommRing F] (Q : F × F × F) : cad (0, 1, 0) Q = scT Q.2.1 Q := by
  unfold cad scT
  refine Prod.ext ?_ (Prod.ext ?_ ?_)
  · show ccX 0 1 0 Q.1 Q.2.1 Q.2.2 = Q.2.1 * Q.1
    unfold ccX
    grind
  · show ccY 0 1 0 Q.1 Q.2.1 Q.2.2 = Q.2.1 * Q.2.1
    unfold ccY
    grind
  · show ccZ 0 1 0 Q.1 Q.2.1 Q.2.2 = Q.2.1 * Q.2.2
    unfold ccZ
    grind
theorem mnr_sc {F : Type} [Lean.Grind.CommRing F] (l m : F) (P : F × F × F) : mnr (scT l P) (scT m P) := by
  unfold mnr scT
  refine ⟨?_, ?_, ?_⟩
  · show l * P.1 * (m * P.2.1) - m * P.1 * (l * P.2.1) = 0; grind
  · show l * P.1 * (m * P.2.2) - m * P.1 * (l * P.2.2) = 0; grind
  · show l * P.2.1 * (m * P.2.2) - m * P.2.1 * (l * P.2.2) = 0; grind
/-- what the field must be: iv inverts, 2 is not 0, -7 is no cube, sums of three -/
def fdG {F : Type} [Lean.Grind.CommRing F] (iv : F → F) : Prop := (∀ a : F, a ≠ 0 → a * iv a = 1) ∧ (∀ a : F, a + a = 0 → a = 0) ∧ (∀ x : F, x * x * x + 7 ≠ 0) ∧ (1 : F) ≠ 0
def asA (F : Type) [Lean.Grind.CommRing F] : Prop := ∀ x1 y1 x2 y2 x3 y3 : F, y1 * y1 = x1 * x1 * x1 + 7 → y2 * y2 = x2 * x2 * x2 + 7 → y3 * y3 = x3 * x3 * x3 + 7 → asO (x1, y1, 1) (x2, y2, 1) (x3, y3, 1)
theorem fdG.dom {F : Type} [Lean.Grind.CommRing F] {iv : F → F} (h : fdG iv) (a b : F) (e : a * b = 0) : a = 0 ∨ b = 0 := by
  by_cases c : a = 0
  · exact Or.inl c
  · have := h.1 a c
    exact Or.inr (by grind)
theorem fdG.ne {F : Type} [Lean.Grind.CommRing F] {iv : F → F} (h : fdG iv) {a b : F} (ha : a ≠ 0) (hb : b ≠ 0) : a * b ≠ 0 := fun e => (h.dom a b e).elim ha hb
/-- no cube of a quotient is -7 -/
theorem fdG.cb {F : Type} [Lean.Grind.CommRing F] {iv : F → F} (h : fdG iv) {X D : F} (hD : D ≠ 0) : X * X * X + 7 * (D * D * D) ≠ 0 := fun e => by
  have h1 := h.1 D hD
  refine h.2.2.1 (X * iv D) ?_
  have h2 : X * iv D * (X * iv D) * (X * iv D) + 7 = (X * X * X + 7 * (D * D * D)) * (iv D * iv D * iv D) := by grind
  rw [h2, e]
  grind
theorem fdG.y0 {F : Type} [Lean.Grind.CommRing F] {iv : F → F} (h : fdG iv) {x y : F} (o : y * y = x * x * x + 7) : y ≠ 0 := fun e => h.2.2.1 x (by rw [← o, e]; grind)
def onE {F : Type} [Lean.Grind.CommRing F] : Option (F × F) → Prop
  | none => True
  | some q => q.2 * q.2 = q.1 * q.1 * q.1 + 7
def emE {F : Type} [Lean.Grind.CommRing F] : Option (F × F) → F × F × F
  | none => (0, 1, 0)
  | some q => (q.1, q.2, 1)
def vTr {F : Type} [Lean.Grind.CommRing F] (T : F × F × F) : Prop := T.2.1 * T.2.1 * T.2.2 = T.1 * T.1 * T.1 + 7 * (T.2.2 * T.2.2 * T.2.2) ∧ ¬ (T.1 = 0 ∧ T.2.1 = 0 ∧ T.2.2 = 0)
noncomputable def nrE {F : Type} [Lean.Grind.CommRing F] (iv : F → F) (T : F × F × F) : Option (F × F) := @ite _ (T.2.2 = 0) (Classical.propDecidable _) none (some (T.1 * iv T.2.2, T.2.1 * iv T.2.2))
theorem nrE_0 {F : Type} [Lean.Grind.CommRing F] {iv : F → F} {T : F × F × F} (h : T.2.2 = 0) : nrE iv T = none := if_pos h
theorem nrE_1 {F : Type} [Lean.Grind.CommRing F] {iv : F → F} {T : F × F × F} (h : T.2.2 ≠ 0) : nrE iv T = some (T.1 * iv T.2.2, T.2.1 * iv T.2.2) := if_neg h
noncomputable def gaE {F : Type} [Lean.Grind.CommRing F] (iv : F → F) (P Q : Option (F × F)) : Option (F × F) := nrE iv (cad (emE P) (emE Q))
def ngE {F : Type} [Lean.Grind.CommRing F] : Option (F × F) → Option (F × F)
  | none => none
  | some q => some (q.1, -q.2)
/-- two points with another x -/
theorem ch_id {F : Type} [Lean.Grind.CommRing F] {x1 y1 x2 y2 : F} (o1 : y1 * y1 = x1 * x1 * x1 + 7) (o2 : y2 * y2 = x2 * x2 * x2 + 7) : ccZ x1 y1 1 x2 y2 1 = -(y1 + y2) * ((x2 - x1) * (x2 - x1) * (2 * x1 + x2) - (y1 + y2) * (y1 + y2)) - y1 * ((x2 - x1) * (x2 - x1) * (x2 - x1)) ∧ ccX x1 y1 1 x2 y2 1 * ((x2 - x1) * (x2 - x1)) = ccZ x1 y1 1 x2 y2 1 * ((y2 - y1) * (y2 - y1) - (x2 - x1) * (x2 - x1) * (x1 + x2)) := by
  unfold ccX ccZ
  constructor
  · grind
  · grind
theorem ch_idY {F : Type} [Lean.Grind.CommRing F] {x1 y1 x2 y2 : F} (o1 : y1 * y1 = x1 * x1 * x1 + 7) (o2 : y2 * y2 = x2 * x2 * x2 + 7) : ccY x1 y1 1 x2 y2 1 * ((x2 - x1) * (x2 - x1) * (x2 - x1)) = ccZ x1 y1 1 x2 y2 1 * ((y2 - y1) * (x1 * ((x2 - x1) * (x2 - x1)) - ((y2 - y1) * (y2 - y1) - (x2 - x1) * (x2 - x1) * (x1 + x2))) - y1 * ((x2 - x1) * (x2 - x1) * (x2 - x1))) := by
  unfold ccY ccZ
  grind
theorem ch_on {F : Type} [Lean.Grind.CommRing F] {x1 y1 x2 y2 d m X Y : F} (o1 : y1 * y1 = x1 * x1 * x1 + 7) (o2 : y2 * y2 = x2 * x2 * x2 + 7) (hd : d = x2 - x1) (hm : m = y2 - y1) (hX : X = m * m - d * d * (x1 + x2)) (hY : Y = m * (x1 * (d * d) - X) - y1 * (d * d * d)) : Y * Y = X * X * X + 7 * (d * d * d * (d * d * d)) := by
  have ex : x2 = x1 + d := by rw [hd]; grind
  have ey : y2 = y1 + m := by rw [hm]; grind
  have hE : 2 * (y1 * m) = 3 * (x1 * x1 * d) + 3 * (x1 * (d * d)) + d * d * d - m * m := by
    rw [ex, ey] at o2
    clear hd hm hX hY ex ey
    grind
  have hX2 : X = m * m - d * d * (2 * x1 + d) := by
    rw [hX, ex]
    clear hd hm hX hY ex ey hE o1 o2
    grind
  have hA : x1 * (d * d) - X = 3 * (x1 * (d * d)) + d * d * d - m * m := by
    rw [hX2]
    clear hd hm hX hY ex ey hE o1 o2 hX2
    grind
  have hYY : Y * Y = m * m * ((x1 * (d * d) - X) * (x1 * (d * d) - X)) - 2 * (y1 * m) * (d * d * d) * (x1 * (d * d) - X) + y1 * y1 * (d * d * d * (d * d * d)) := by
    rw [hY]
    generalize x1 * (d * d) - X = A
    clear hd hm hX hY ex ey hE o1 o2
    grind
  rw [hYY, hE, o1, hA, hX2]
  clear hd hm hX hY ex ey hE o1 o2 hX2 hA hYY
  grind
