/-! THE CURVE over any field: chord, tangent, weighted points -/
theorem gaE_ch {F : Type} [Lean.Grind.CommRing F] {iv : F → F} (h : fdG iv) {x1 y1 x2 y2 : F} (o1 : y1 * y1 = x1 * x1 * x1 + 7) (o2 : y2 * y2 = x2 * x2 * x2 + 7) (hx : x1 ≠ x2) : ∃ x3 y3, gaE iv (some (x1, y1)) (some (x2, y2)) = some (x3, y3) ∧ (x2 - x1) * (x2 - x1) * x3 = (y2 - y1) * (y2 - y1) - (x2 - x1) * (x2 - x1) * (x1 + x2) ∧ (x2 - x1) * (x2 - x1) * (x2 - x1) * y3 = (y2 - y1) * (x1 * ((x2 - x1) * (x2 - x1)) - ((y2 - y1) * (y2 - y1) - (x2 - x1) * (x2 - x1) * (x1 + x2))) - y1 * ((x2 - x1) * (x2 - x1) * (x2 - x1)) := by
  have z0 := (cad_vs h o1 o2).2 hx
  have h1 := h.1 _ z0
  have hX := (ch_id o1 o2).2
  have hY := ch_idY o1 o2
  refine ⟨ccX x1 y1 1 x2 y2 1 * iv (ccZ x1 y1 1 x2 y2 1), ccY x1 y1 1 x2 y2 1 * iv (ccZ x1 y1 1 x2 y2 1), nrE_1 (T := cad (x1, y1, 1) (x2, y2, 1)) z0, ?_, ?_⟩
  · generalize iv (ccZ x1 y1 1 x2 y2 1) = i at *
    generalize ccX x1 y1 1 x2 y2 1 = X at *
    generalize ccZ x1 y1 1 x2 y2 1 = Z at *
    have a1 : (x2 - x1) * (x2 - x1) * (X * i) = X * ((x2 - x1) * (x2 - x1)) * i := by grind
    rw [a1, hX]
    generalize (y2 - y1) * (y2 - y1) - (x2 - x1) * (x2 - x1) * (x1 + x2) = Xn
    clear hX hY o1 o2
    grind
  · generalize iv (ccZ x1 y1 1 x2 y2 1) = i at *
    generalize ccY x1 y1 1 x2 y2 1 = Y at *
    generalize ccZ x1 y1 1 x2 y2 1 = Z at *
    have a1 : (x2 - x1) * (x2 - x1) * (x2 - x1) * (Y * i) = Y * ((x2 - x1) * (x2 - x1) * (x2 - x1)) * i := by grind
    rw [a1, hY]
    generalize (y2 - y1) * (x1 * ((x2 - x1) * (x2 - x1)) - ((y2 - y1) * (y2 - y1) - (x2 - x1) * (x2 - x1) * (x1 + x2))) - y1 * ((x2 - x1) * (x2 - x1) * (x2 - x1)) = Yn
    clear hX hY o1 o2
    grind
theorem gaE_db {F : Type} [Lean.Grind.CommRing F] {iv : F → F} (h : fdG iv) {x y : F} (o : y * y = x * x * x + 7) : ∃ x3 y3, gaE iv (some (x, y)) (some (x, y)) = some (x3, y3) ∧ 4 * (y * y) * x3 = 9 * (x * x * x * x) - 8 * (x * (y * y)) ∧ 8 * (y * y * y) * y3 = 3 * (x * x) * (4 * (x * (y * y)) - (9 * (x * x * x * x) - 8 * (x * (y * y)))) - 8 * (y * y * (y * y)) := by
  have n1 := h.y0 o
  have z : ccZ x y 1 x y 1 = 2 * (2 * 2) * (y * (y * y)) := by unfold ccZ; grind
  have z0 : ccZ x y 1 x y 1 ≠ 0 := by
    rw [z]
    exact h.ne (h.ne h.n2 (h.ne h.n2 h.n2)) (h.ne n1 (h.ne n1 n1))
  have h1 := h.1 _ z0
  have hX : ccX x y 1 x y 1 = 2 * y * (9 * (x * x * x * x) - 8 * (x * (y * y))) := by unfold ccX; grind
  have hY : ccY x y 1 x y 1 = 3 * (x * x) * (4 * (x * (y * y)) - (9 * (x * x * x * x) - 8 * (x * (y * y)))) - 8 * (y * y * (y * y)) := by unfold ccY; grind
  refine ⟨ccX x y 1 x y 1 * iv (ccZ x y 1 x y 1), ccY x y 1 x y 1 * iv (ccZ x y 1 x y 1), nrE_1 (T := cad (x, y, 1) (x, y, 1)) z0, ?_, ?_⟩
  · rw [hX]
    generalize iv (ccZ x y 1 x y 1) = i at *
    rw [z] at h1
    generalize 9 * (x * x * x * x) - 8 * (x * (y * y)) = Xn
    have a1 : 4 * (y * y) * (2 * y * Xn * i) = Xn * (2 * (2 * 2) * (y * (y * y)) * i) := by grind
    rw [a1, h1]
    grind
  · rw [hY]
    generalize iv (ccZ x y 1 x y 1) = i at *
    rw [z] at h1
    generalize 3 * (x * x) * (4 * (x * (y * y)) - (9 * (x * x * x * x) - 8 * (x * (y * y)))) - 8 * (y * y * (y * y)) = Yn
    have a1 : 8 * (y * y * y) * (Yn * i) = Yn * (2 * (2 * 2) * (y * (y * y)) * i) := by grind
    rw [a1, h1]
    grind
noncomputable def jcE {F : Type} [Lean.Grind.CommRing F] (iv : F → F) (T : F × F × F) : Option (F × F) := @ite _ (T.2.2 = 0) (Classical.propDecidable _) none (some (T.1 * (iv T.2.2 * iv T.2.2), T.2.1 * (iv T.2.2 * iv T.2.2 * iv T.2.2)))
theorem jcE_0 {F : Type} [Lean.Grind.CommRing F] {iv : F → F} {T : F × F × F} (h : T.2.2 = 0) : jcE iv T = none := if_pos h
theorem jcE_1 {F : Type} [Lean.Grind.CommRing F] {iv : F → F} {T : F × F × F} (h : T.2.2 ≠ 0) : jcE iv T = some (T.1 * (iv T.2.2 * iv T.2.2), T.2.1 * (iv T.2.2 * iv T.2.2 * iv T.2.2)) := if_neg h
theorem jcE_n {F : Type} [Lean.Grind.CommRing F] {iv : F → F} {T : F × F × F} (h : jcE iv T = none) : T.2.2 = 0 := Classical.byContradiction fun x => by rw [jcE_1 x] at h; cases h
theorem jcE_some {F : Type} [Lean.Grind.CommRing F] {iv : F → F} (h : fdG iv) {T : F × F × F} {x y : F} (hz : T.2.2 ≠ 0) (e1 : T.1 = x * (T.2.2 * T.2.2)) (e2 : T.2.1 = y * (T.2.2 * T.2.2 * T.2.2)) : jcE iv T = some (x, y) := by
  rw [jcE_1 hz]
  have h1 := h.1 _ hz
  generalize iv T.2.2 = i at *
  rw [e1, e2]
  generalize T.2.2 = z at *
  congr 1
  refine Prod.ext ?_ ?_
  · show x * (z * z) * (i * i) = x
    have : x * (z * z) * (i * i) = x * ((z * i) * (z * i)) := by grind
    rw [this, h1]; grind
  · show y * (z * z * z) * (i * i * i) = y
    have : y * (z * z * z) * (i * i * i) = y * ((z * i) * (z * i) * (z * i)) := by grind
    rw [this, h1]; grind
theorem jcE_ex {F : Type} [Lean.Grind.CommRing F] {iv : F → F} (h : fdG iv) {T : F × F × F} (hz : T.2.2 ≠ 0) : ∃ x y, jcE iv T = some (x, y) ∧ T.1 = x * (T.2.2 * T.2.2) ∧ T.2.1 = y * (T.2.2 * T.2.2 * T.2.2) := by
  refine ⟨_, _, jcE_1 hz, ?_, ?_⟩
  · have h1 := h.1 _ hz
    generalize iv T.2.2 = i at *
    generalize T.2.2 = z at *
    have : T.1 * (i * i) * (z * z) = T.1 * ((z * i) * (z * i)) := by grind
    rw [this, h1]; grind
  · have h1 := h.1 _ hz
    generalize iv T.2.2 = i at *
    generalize T.2.2 = z at *
    have : T.2.1 * (i * i * i) * (z * z * z) = T.2.1 * ((z * i) * (z * i) * (z * i)) := by grind
    rw [this, h1]; grind
def qdM {F : Type} [Lean.Grind.CommRing F] (x : F) : F := x * x + (x * x + x * x)
def qdS {F : Type} [Lean.Grind.CommRing F] (x y : F) : F := x * (y * y + y * y) + x * (y * y + y * y)
def qdX {F : Type} [Lean.Grind.CommRing F] (x y : F) : F := qdM x * qdM x - qdS x y - qdS x y
def qdE {F : Type} [Lean.Grind.CommRing F] (y : F) : F := (y * y + y * y) * (y * y + y * y) + (y * y + y * y) * (y * y + y * y)
def qdY {F : Type} [Lean.Grind.CommRing F] (x y : F) : F := (qdS x y - qdX x y) * qdM x - qdE y
def qdZ {F : Type} [Lean.Grind.CommRing F] (y z : F) : F := y * z + y * z
def qdT {F : Type} [Lean.Grind.CommRing F] (T : F × F × F) : F × F × F := (qdX T.1 T.2.1, qdY T.1 T.2.1, qdZ T.2.1 T.2.2)
def qaU {F : Type} [Lean.Grind.CommRing F] (x z2 : F) : F := x * (z2 * z2)
def qaH {F : Type} [Lean.Grind.CommRing F] (x1 z1 x2 z2 : F) : F := x2 * (z1 * z1) - qaU x1 z2
def qaV {F : Type} [Lean.Grind.CommRing F] (y z2 : F) : F := y * z2 * (z2 * z2)
def qaK {F : Type} [Lean.Grind.CommRing F] (y1 z1 y2 z2 : F) : F := y2 * z1 * (z1 * z1) - qaV y1 z2
def qaX {F : Type} [Lean.Grind.CommRing F] (u h k : F) : F := k * k - h * h * h - u * (h * h) - u * (h * h)
def qaY {F : Type} [Lean.Grind.CommRing F] (u v h k : F) : F := (u * (h * h) - qaX u h k) * k - v * (h * h * h)
def qaT {F : Type} [Lean.Grind.CommRing F] (P Q : F × F × F) : F × F × F := (qaX (qaU P.1 Q.2.2) (qaH P.1 P.2.2 Q.1 Q.2.2) (qaK P.2.1 P.2.2 Q.2.1 Q.2.2), qaY (qaU P.1 Q.2.2) (qaV P.2.1 Q.2.2) (qaH P.1 P.2.2 Q.1 Q.2.2) (qaK P.2.1 P.2.2 Q.2.1 Q.2.2), P.2.2 * Q.2.2 * qaH P.1 P.2.2 Q.1 Q.2.2)
theorem jc_db {F : Type} [Lean.Grind.CommRing F] {iv : F → F} (h : fdG iv) {T : F × F × F} (o : onE (jcE iv T)) : jcE iv (qdT T) = gaE iv (jcE iv T) (jcE iv T) := by
  by_cases c : T.2.2 = 0
  · rw [jcE_0 c, gaE_o h (P := none) trivial]
    exact jcE_0 (by show T.2.1 * T.2.2 + T.2.1 * T.2.2 = 0; rw [c]; grind)
  · obtain ⟨x, y, e, e1, e2⟩ := jcE_ex h c
    rw [e] at o ⊢
    have o1 : y * y = x * x * x + 7 := o
    obtain ⟨x3, y3, e3, a1, a2⟩ := gaE_db h o1
    rw [e3]
    have n1 := h.y0 o1
    have hz : (qdT T).2.2 = 2 * (y * (T.2.2 * T.2.2 * (T.2.2 * T.2.2))) := by
      show T.2.1 * T.2.2 + T.2.1 * T.2.2 = _
      rw [e2]; grind
    refine jcE_some h (T := qdT T) (by rw [hz]; exact h.ne h.n2 (h.ne n1 (h.ne (h.ne c c) (h.ne c c)))) ?_ ?_
    · rw [hz]
      show qdX T.1 T.2.1 = _
      rw [e1, e2]
      unfold qdX qdM qdS
      generalize T.2.2 = z at *
      have b1 : x3 * (2 * (y * (z * z * (z * z))) * (2 * (y * (z * z * (z * z))))) = 4 * (y * y) * x3 * (z * z * (z * z) * (z * z * (z * z))) := by grind
      rw [b1, a1]
      grind
    · rw [hz]
      show qdY T.1 T.2.1 = _
      rw [e1, e2]
      unfold qdY qdX qdM qdS qdE
      generalize T.2.2 = z at *
      have b1 : y3 * (2 * (y * (z * z * (z * z))) * (2 * (y * (z * z * (z * z)))) * (2 * (y * (z * z * (z * z))))) = 8 * (y * y * y) * y3 * (z * z * (z * z) * (z * z * (z * z)) * (z * z * (z * z))) := by grind
      rw [b1, a2]
      grind
theorem jc_ad {F : Type} [Lean.Grind.CommRing F] {iv : F → F} (h : fdG iv) {T T' : F × F × F} (z1 : T.2.2 ≠ 0) (z2 : T'.2.2 ≠ 0) (o : onE (jcE iv T)) (o' : onE (jcE iv T')) : (qaH T.1 T.2.2 T'.1 T'.2.2 = 0 → qaK T.2.1 T.2.2 T'.2.1 T'.2.2 = 0 → jcE iv T = jcE iv T') ∧ (qaH T.1 T.2.2 T'.1 T'.2.2 = 0 → qaK T.2.1 T.2.2 T'.2.1 T'.2.2 ≠ 0 → gaE iv (jcE iv T) (jcE iv T') = none) ∧ (qaH T.1 T.2.2 T'.1 T'.2.2 ≠ 0 → jcE iv (qaT T T') = gaE iv (jcE iv T) (jcE iv T')) := by
  obtain ⟨x1, y1, e, e1, e2⟩ := jcE_ex h z1
  obtain ⟨x2, y2, e', e3, e4⟩ := jcE_ex h z2
  rw [e] at o ⊢
  rw [e'] at o' ⊢
  have o1 : y1 * y1 = x1 * x1 * x1 + 7 := o
  have o2 : y2 * y2 = x2 * x2 * x2 + 7 := o'
  have hH : qaH T.1 T.2.2 T'.1 T'.2.2 = (x2 - x1) * (T.2.2 * T.2.2 * (T'.2.2 * T'.2.2)) := by
    unfold qaH qaU
    rw [e1, e3]; grind
  have hK : qaK T.2.1 T.2.2 T'.2.1 T'.2.2 = (y2 - y1) * (T.2.2 * T.2.2 * T.2.2 * (T'.2.2 * T'.2.2 * T'.2.2)) := by
    unfold qaK qaV
    rw [e2, e4]; grind
  have n1 := h.ne (h.ne z1 z1) (h.ne z2 z2)
  have n2 := h.ne (h.ne (h.ne z1 z1) z1) (h.ne (h.ne z2 z2) z2)
  refine ⟨fun a b => ?_, fun a b => ?_, fun a => ?_⟩
  · rw [hH] at a
    rw [hK] at b
    have a1 : x2 = x1 := by have := (h.dom _ _ a).resolve_right n1; grind
    have b1 : y2 = y1 := by have := (h.dom _ _ b).resolve_right n2; grind
    rw [a1, b1]
  · rw [hH] at a
    rw [hK] at b
    have a1 : x2 = x1 := by have := (h.dom _ _ a).resolve_right n1; grind
    have b1 : y2 - y1 ≠ 0 := fun x => b (by rw [x]; grind)
    rw [a1] at o2
    have b2 : y2 = -y1 := by
      have : (y2 - y1) * (y2 + y1) = 0 := by grind
      have := (h.dom _ _ this).resolve_left b1
      grind
    rw [a1, b2]
    exact gaE_ng h (P := some (x1, y1)) o
  · have hx : x1 ≠ x2 := fun x => a (by rw [hH, x]; grind)
    obtain ⟨x3, y3, e5, a1, a2⟩ := gaE_ch h o1 o2 hx
    rw [e5]
    have hz : (qaT T T').2.2 = (x2 - x1) * (T.2.2 * T.2.2 * T.2.2 * (T'.2.2 * T'.2.2 * T'.2.2)) := by
      show T.2.2 * T'.2.2 * qaH T.1 T.2.2 T'.1 T'.2.2 = _
      rw [hH]; grind
    have d0 : x2 - x1 ≠ 0 := fun x => hx (by grind)
    have hU : qaU T.1 T'.2.2 = x1 * (T.2.2 * T.2.2 * (T'.2.2 * T'.2.2)) := by unfold qaU; rw [e1]; grind
    have hV : qaV T.2.1 T'.2.2 = y1 * (T.2.2 * T.2.2 * T.2.2 * (T'.2.2 * T'.2.2 * T'.2.2)) := by unfold qaV; rw [e2]; grind
    have hX : qaX (qaU T.1 T'.2.2) (qaH T.1 T.2.2 T'.1 T'.2.2) (qaK T.2.1 T.2.2 T'.2.1 T'.2.2) = x3 * ((x2 - x1) * (T.2.2 * T.2.2 * T.2.2 * (T'.2.2 * T'.2.2 * T'.2.2)) * ((x2 - x1) * (T.2.2 * T.2.2 * T.2.2 * (T'.2.2 * T'.2.2 * T'.2.2)))) := by
      rw [hU, hH, hK]
      unfold qaX
      generalize T.2.2 = z at *
      generalize T'.2.2 = w at *
      have b1 : x3 * ((x2 - x1) * (z * z * z * (w * w * w)) * ((x2 - x1) * (z * z * z * (w * w * w)))) = (x2 - x1) * (x2 - x1) * x3 * (z * z * z * (w * w * w) * (z * z * z * (w * w * w))) := by grind
      rw [b1, a1]
      grind
    refine jcE_some h (T := qaT T T') (by rw [hz]; exact h.ne d0 n2) ?_ ?_
    · rw [hz]
      exact hX
    · rw [hz]
      show qaY (qaU T.1 T'.2.2) (qaV T.2.1 T'.2.2) (qaH T.1 T.2.2 T'.1 T'.2.2) (qaK T.2.1 T.2.2 T'.2.1 T'.2.2) = _
      unfold qaY
      rw [hX, hU, hV, hH, hK]
      generalize T.2.2 = z at *
      generalize T'.2.2 = w at *
      have b1 : y3 * ((x2 - x1) * (z * z * z * (w * w * w)) * ((x2 - x1) * (z * z * z * (w * w * w))) * ((x2 - x1) * (z * z * z * (w * w * w)))) = (x2 - x1) * (x2 - x1) * (x2 - x1) * y3 * (z * z * z * (w * w * w) * (z * z * z * (w * w * w)) * (z * z * z * (w * w * w))) := by grind
      have b2 : x3 * ((x2 - x1) * (z * z * z * (w * w * w)) * ((x2 - x1) * (z * z * z * (w * w * w)))) = (x2 - x1) * (x2 - x1) * x3 * (z * z * z * (w * w * w) * (z * z * z * (w * w * w))) := by grind
      rw [b1, b2, a2, a1]
      grind
