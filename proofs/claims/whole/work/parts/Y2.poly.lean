/-! THE CURVE over any field: complete sums; a sum of three by roots -/
def ccX {F : Type} [Lean.Grind.CommRing F] (a b c d e f : F) : F := (a * e + d * b) * (b * e - 21 * (c * f)) - 21 * ((b * f + e * c) * (a * f + d * c))
def ccY {F : Type} [Lean.Grind.CommRing F] (a b c d e f : F) : F := (b * e + 21 * (c * f)) * (b * e - 21 * (c * f)) + 63 * (a * d * (a * f + d * c))
def ccZ {F : Type} [Lean.Grind.CommRing F] (a b c d e f : F) : F := (b * f + e * c) * (b * e + 21 * (c * f)) + 3 * (a * d * (a * e + d * b))
def cad {F : Type} [Lean.Grind.CommRing F] (P Q : F × F × F) : F × F × F := (ccX P.1 P.2.1 P.2.2 Q.1 Q.2.1 Q.2.2, ccY P.1 P.2.1 P.2.2 Q.1 Q.2.1 Q.2.2, ccZ P.1 P.2.1 P.2.2 Q.1 Q.2.1 Q.2.2)
def mnr {F : Type} [Lean.Grind.CommRing F] (P Q : F × F × F) : Prop := P.1 * Q.2.1 - Q.1 * P.2.1 = 0 ∧ P.1 * Q.2.2 - Q.1 * P.2.2 = 0 ∧ P.2.1 * Q.2.2 - Q.2.1 * P.2.2 = 0
def asO {F : Type} [Lean.Grind.CommRing F] (P Q R : F × F × F) : Prop := mnr (cad (cad P Q) R) (cad P (cad Q R))
def PDg {F : Type} [Lean.Grind.CommRing F] : Nat → (F → F) → Prop
  | 0, f => ∃ c, ∀ x, f x = c
  | d + 1, f => ∃ c g, PDg d g ∧ ∀ x, f x = c + x * g x
theorem PDg.e {F : Type} [Lean.Grind.CommRing F] : ∀ {d : Nat} {f f' : F → F}, PDg d f → (∀ x, f x = f' x) → PDg d f'
  | 0, f, f', ⟨c, h⟩, e => ⟨c, fun x => (e x).symm.trans (h x)⟩
  | _ + 1, f, f', ⟨c, g, hg, h⟩, e => ⟨c, g, hg, fun x => (e x).symm.trans (h x)⟩
theorem PDg.c {F : Type} [Lean.Grind.CommRing F] (c : F) : ∀ d : Nat, PDg d (fun _ => c)
  | 0 => ⟨c, fun _ => rfl⟩
  | d + 1 => ⟨c, fun _ => 0, PDg.c 0 d, fun x => by grind⟩
theorem PDg.up {F : Type} [Lean.Grind.CommRing F] : ∀ {d : Nat} {f : F → F}, PDg d f → PDg (d + 1) f
  | 0, f, ⟨c, h⟩ => ⟨c, fun _ => 0, ⟨0, fun _ => rfl⟩, fun x => by rw [h x]; grind⟩
  | _ + 1, f, ⟨c, g, hg, h⟩ => ⟨c, g, PDg.up hg, h⟩
theorem PDg.mono {F : Type} [Lean.Grind.CommRing F] {d d' : Nat} {f : F → F} (h : d ≤ d') (hf : PDg d f) : PDg d' f := by
  obtain ⟨k, e⟩ := Nat.le.dest h
  rw [← e]
  clear e h
  induction k with
  | zero => exact hf
  | succ k ih => exact PDg.up ih
theorem PDg.add {F : Type} [Lean.Grind.CommRing F] : ∀ {d : Nat} {f f' : F → F}, PDg d f → PDg d f' → PDg d (fun x => f x + f' x)
  | 0, f, f', ⟨c, h⟩, ⟨c', h'⟩ => ⟨c + c', fun x => by show f x + f' x = c + c'; rw [h x, h' x]⟩
  | _ + 1, f, f', ⟨c, g, hg, h⟩, ⟨c', g', hg', h'⟩ => ⟨c + c', fun x => g x + g' x, PDg.add hg hg', fun x => by show f x + f' x = c + c' + x * (g x + g' x); rw [h x, h' x]; grind⟩
theorem PDg.cm {F : Type} [Lean.Grind.CommRing F] (k : F) : ∀ {d : Nat} {f : F → F}, PDg d f → PDg d (fun x => k * f x)
  | 0, f, ⟨c, h⟩ => ⟨k * c, fun x => by show k * f x = k * c; rw [h x]⟩
  | _ + 1, f, ⟨c, g, hg, h⟩ => ⟨k * c, fun x => k * g x, PDg.cm k hg, fun x => by show k * f x = k * c + x * (k * g x); rw [h x]; grind⟩
theorem PDg.xm {F : Type} [Lean.Grind.CommRing F] {d : Nat} {f : F → F} (h : PDg d f) : PDg (d + 1) (fun x => x * f x) := ⟨0, f, h, fun x => by grind⟩
theorem PDg.mul {F : Type} [Lean.Grind.CommRing F] : ∀ {m n : Nat} {f f' : F → F}, PDg m f → PDg n f' → PDg (m + n) (fun x => f x * f' x)
  | 0, n, f, f', ⟨c, h⟩, h' => by
    rw [Nat.zero_add]
    exact PDg.e (PDg.cm c h') (fun x => by rw [h x])
  | m + 1, n, f, f', ⟨c, g, hg, h⟩, h' => by
    have h2 : PDg (m + n + 1) (fun x => x * (g x * f' x)) := PDg.xm (PDg.mul hg h')
    have h3 : PDg (m + n + 1) (fun x => c * f' x) := PDg.mono (by omega) (PDg.cm c h')
    rw [show m + 1 + n = m + n + 1 by omega]
    exact PDg.e (PDg.add h3 h2) (fun x => by rw [h x]; grind)
theorem PDg.cub {F : Type} [Lean.Grind.CommRing F] : PDg 3 (fun x : F => x * x * x + 7) := ⟨7, fun x => x * x, ⟨0, fun x => x, ⟨0, fun _ => 1, ⟨1, fun _ => rfl⟩, fun x => by grind⟩, fun x => by grind⟩, fun x => by grind⟩
theorem PDg.fac {F : Type} [Lean.Grind.CommRing F] : ∀ {d : Nat} {f : F → F}, PDg (d + 1) f → ∀ q : F, ∃ g, PDg d g ∧ ∀ x, f x - f q = (x - q) * g x
  | 0, f, ⟨c, g, ⟨k, hk⟩, h⟩, q => ⟨fun _ => k, ⟨k, fun _ => rfl⟩, fun x => by rw [h x, h q, hk x, hk q]; grind⟩
  | d + 1, f, ⟨c, g, hg, h⟩, q => by
    obtain ⟨u, hu, e⟩ := PDg.fac hg q
    refine ⟨fun x => x * u x + g q, PDg.add (PDg.xm hu) (PDg.c (g q) _), fun x => ?_⟩
    have := e x
    rw [h x, h q]
    grind
theorem PDg.rt {F : Type} [Lean.Grind.CommRing F] (hd : ∀ a b : F, a * b = 0 → a = 0 ∨ b = 0) : ∀ {d : Nat} {f : F → F}, PDg d f → ∀ s : Nat → F, (∀ i j, i ≤ d → j ≤ d → s i = s j → i = j) → (∀ i, i ≤ d → f (s i) = 0) → ∀ x, f x = 0
  | 0, f, ⟨c, h⟩, s, _, hz, x => by
    rw [h x, ← h (s 0)]
    exact hz 0 (Nat.le_refl _)
  | d + 1, f, hf, s, hs, hz, x => by
    obtain ⟨g, hg, e⟩ := PDg.fac hf (s (d + 1))
    have z := hz (d + 1) (Nat.le_refl _)
    have hg0 : ∀ i, i ≤ d → g (s i) = 0 := fun i hi => by
      have e1 := e (s i)
      rw [z, hz i (by omega)] at e1
      rcases hd (s i - s (d + 1)) (g (s i)) (by rw [← e1]; grind) with c | c
      · exact absurd (hs i (d + 1) (by omega) (Nat.le_refl _) (by grind)) (by omega)
      · exact c
    have h3 := PDg.rt hd hg s (fun i j hi hj => hs i j (by omega) (by omega)) hg0 x
    have e1 := e x
    rw [z, h3] at e1
    grind
/-- functions on the curve: a x + b x * y -/
def PBg {F : Type} [Lean.Grind.CommRing F] : Nat → (F → F) → Prop
  | 0, b => ∀ x, b x = 0
  | e + 1, b => PDg (3 * e) b
def CDg {F : Type} [Lean.Grind.CommRing F] (e : Nat) (u : F → F → F) : Prop := ∃ a b, PDg (3 * e) a ∧ PBg e b ∧ ∀ x y, y * y = x * x * x + 7 → u x y = a x + b x * y
theorem CDg.e {F : Type} [Lean.Grind.CommRing F] {e e' : Nat} {u u' : F → F → F} (h : CDg e u) (ee : e' = e) (hu : ∀ x y, u x y = u' x y) : CDg e' u' := by
  obtain ⟨a, b, ha, hb, h⟩ := h
  rw [ee]
  exact ⟨a, b, ha, hb, fun x y hy => (hu x y).symm.trans (h x y hy)⟩
theorem CDg.c {F : Type} [Lean.Grind.CommRing F] (c : F) : CDg 0 (fun _ _ => c) := ⟨fun _ => c, fun _ => 0, PDg.c c _, fun _ => rfl, fun x y _ => by grind⟩
theorem CDg.one {F : Type} [Lean.Grind.CommRing F] (c : F) : CDg 1 (fun _ _ => c) := ⟨fun _ => c, fun _ => 0, PDg.c c _, PDg.c 0 _, fun x y _ => by grind⟩
theorem CDg.x1 {F : Type} [Lean.Grind.CommRing F] : CDg 1 (fun (x _ : F) => x) := ⟨fun x => x, fun _ => 0, PDg.mono (d := 1) (by omega) ⟨0, fun _ => 1, ⟨1, fun _ => rfl⟩, fun x => by grind⟩, PDg.c 0 _, fun x y _ => by grind⟩
theorem CDg.y1 {F : Type} [Lean.Grind.CommRing F] : CDg 1 (fun (_ y : F) => y) := ⟨fun _ => 0, fun _ => 1, PDg.c 0 _, PDg.c 1 _, fun x y _ => by grind⟩
theorem CDg.add {F : Type} [Lean.Grind.CommRing F] {e : Nat} {u u' : F → F → F} (h : CDg e u) (h' : CDg e u') : CDg e (fun x y => u x y + u' x y) := by
  obtain ⟨a, b, ha, hb, h⟩ := h
  obtain ⟨a', b', ha', hb', h'⟩ := h'
  refine ⟨fun x => a x + a' x, fun x => b x + b' x, PDg.add ha ha', ?_, fun x y hy => by show u x y + u' x y = a x + a' x + (b x + b' x) * y; rw [h x y hy, h' x y hy]; grind⟩
  rcases e with _ | e
  · intro x
    have h1 : b x = 0 := hb x
    have h2 : b' x = 0 := hb' x
    show b x + b' x = 0
    rw [h1, h2]
    grind
  · exact PDg.add hb hb'
theorem CDg.cm {F : Type} [Lean.Grind.CommRing F] (k : F) {e : Nat} {u : F → F → F} (h : CDg e u) : CDg e (fun x y => k * u x y) := by
  obtain ⟨a, b, ha, hb, h⟩ := h
  refine ⟨fun x => k * a x, fun x => k * b x, PDg.cm k ha, ?_, fun x y hy => by show k * u x y = k * a x + k * b x * y; rw [h x y hy]; grind⟩
  rcases e with _ | e
  · intro x
    have h1 : b x = 0 := hb x
    show k * b x = 0
    rw [h1]
    grind
  · exact PDg.cm k hb
theorem CDg.sub {F : Type} [Lean.Grind.CommRing F] {e : Nat} {u u' : F → F → F} (h : CDg e u) (h' : CDg e u') : CDg e (fun x y => u x y - u' x y) :=
  CDg.e (CDg.add h (CDg.cm (-1) h')) rfl (fun x y => by grind)
theorem CDg.mul {F : Type} [Lean.Grind.CommRing F] {e e' : Nat} {u u' : F → F → F} (h : CDg e u) (h' : CDg e' u') : CDg (e + e') (fun x y => u x y * u' x y) := by
  obtain ⟨a, b, ha, hb, h⟩ := h
  obtain ⟨a', b', ha', hb', h'⟩ := h'
  refine ⟨fun x => a x * a' x + b x * b' x * (x * x * x + 7), fun x => a x * b' x + a' x * b x, ?_, ?_, fun x y hy => by show u x y * u' x y = a x * a' x + b x * b' x * (x * x * x + 7) + (a x * b' x + a' x * b x) * y; rw [h x y hy, h' x y hy]; grind⟩
  · rcases e with _ | e
    · have hb0 : ∀ x, b x = 0 := hb
      exact PDg.e (PDg.mono (by omega) (PDg.mul ha ha')) (fun x => by rw [hb0 x]; grind)
    · rcases e' with _ | e'
      · have hb0 : ∀ x, b' x = 0 := hb'
        exact PDg.e (PDg.mono (by omega) (PDg.mul ha ha')) (fun x => by rw [hb0 x]; grind)
      · have hb1 : PDg (3 * e) b := hb
        have hb2 : PDg (3 * e') b' := hb'
        exact PDg.add (PDg.mono (by omega) (PDg.mul ha ha')) (PDg.mono (by omega) (PDg.mul (PDg.mul hb1 hb2) PDg.cub))
  · rcases e with _ | e
    · have hb0 : ∀ x, b x = 0 := hb
      have ha0 : PDg 0 a := ha
      obtain ⟨c, hc⟩ := ha0
      rw [Nat.zero_add]
      rcases e' with _ | e'
      · have hb1 : ∀ x, b' x = 0 := hb'
        intro x
        show a x * b' x + a' x * b x = 0
        rw [hb0 x, hb1 x]
        grind
      · have hb1 : PDg (3 * e') b' := hb'
        exact PDg.e (PDg.cm c hb1) (fun x => by rw [hc x, hb0 x]; grind)
    · have hb1 : PDg (3 * e) b := hb
      rcases e' with _ | e'
      · have hb0 : ∀ x, b' x = 0 := hb'
        have ha0 : PDg 0 a' := ha'
        obtain ⟨c, hc⟩ := ha0
        exact PDg.e (d := 3 * e) (PDg.cm c hb1) (fun x => by rw [hc x, hb0 x]; grind)
      · have hb2 : PDg (3 * e') b' := hb'
        show PDg (3 * (e + 1 + e')) _
        exact PDg.add (PDg.mono (by omega) (PDg.mul ha hb2)) (PDg.mono (by omega) (PDg.mul ha' hb1))
theorem CDg.van {F : Type} [Lean.Grind.CommRing F] (hd : ∀ a b : F, a * b = 0 → a = 0 ∨ b = 0) (h2 : ∀ a : F, a + a = 0 → a = 0) {e : Nat} {u : F → F → F} (h : CDg e u) {s t : Nat → F} (hs : ∀ i j, i ≤ 3 * e → j ≤ 3 * e → s i = s j → i = j) (ho : ∀ i, i ≤ 3 * e → t i * t i = s i * s i * s i + 7 ∧ t i ≠ 0) (z1 : ∀ i, i ≤ 3 * e → u (s i) (t i) = 0) (z2 : ∀ i, i ≤ 3 * e → u (s i) (-(t i)) = 0) : ∀ x y, y * y = x * x * x + 7 → u x y = 0 := by
  obtain ⟨a, b, ha, hb, h⟩ := h
  have ab : ∀ i, i ≤ 3 * e → a (s i) = 0 ∧ b (s i) = 0 := fun i hi => by
    have o := (ho i hi).1
    have e1 := h (s i) (t i) o
    rw [z1 i hi] at e1
    have e2 := h (s i) (-(t i)) (by grind)
    rw [z2 i hi] at e2
    have ea : a (s i) = 0 := h2 _ (by grind)
    have eb : b (s i) * t i = 0 := by grind
    exact ⟨ea, (hd _ _ eb).resolve_right (ho i hi).2⟩
  have a0 := PDg.rt hd ha s hs (fun i hi => (ab i hi).1)
  have b0 : ∀ x, b x = 0 := by
    rcases e with _ | e
    · exact hb
    · exact PDg.rt hd (d := 3 * e) hb s (fun i j hi hj => hs i j (by omega) (by omega)) (fun i hi => (ab i (by omega)).2)
  intro x y hy
  rw [h x y hy, a0, b0]
  grind
/-- triples of such functions -/
def CTg {F : Type} [Lean.Grind.CommRing F] (e : Nat) (U : F → F → F × F × F) : Prop := CDg e (fun x y => (U x y).1) ∧ CDg e (fun x y => (U x y).2.1) ∧ CDg e (fun x y => (U x y).2.2)
theorem CTg.c {F : Type} [Lean.Grind.CommRing F] (P : F × F × F) : CTg 0 (fun _ _ => P) := ⟨CDg.c _, CDg.c _, CDg.c _⟩
theorem CTg.pt {F : Type} [Lean.Grind.CommRing F] : CTg 1 (fun (x y : F) => (x, y, 1)) := ⟨CDg.x1, CDg.y1, CDg.one 1⟩
theorem CTg.ad {F : Type} [Lean.Grind.CommRing F] {e e' : Nat} {U V : F → F → F × F × F} (h : CTg e U) (h' : CTg e' V) : CTg (2 * (e + e')) (fun x y => cad (U x y) (V x y)) := by
  obtain ⟨h1, h2, h3⟩ := h
  obtain ⟨k1, k2, k3⟩ := h'
  have ae := CDg.add (CDg.mul h1 k2) (CDg.mul h2 k1)
  have bf := CDg.add (CDg.mul h2 k3) (CDg.mul h3 k2)
  have af := CDg.add (CDg.mul h1 k3) (CDg.mul h3 k1)
  have be := CDg.mul h2 k2
  have cf := CDg.cm 21 (CDg.mul h3 k3)
  have ad := CDg.mul h1 k1
  refine ⟨?_, ?_, ?_⟩
  · exact CDg.e (CDg.sub (CDg.mul ae (CDg.sub be cf)) (CDg.cm 21 (CDg.mul bf af))) (by omega) (fun x y => by unfold cad ccX; grind)
  · exact CDg.e (CDg.add (CDg.mul (CDg.add be cf) (CDg.sub be cf)) (CDg.cm 63 (CDg.mul ad af))) (by omega) (fun x y => by unfold cad ccY; grind)
  · exact CDg.e (CDg.add (CDg.mul bf (CDg.add be cf)) (CDg.cm 3 (CDg.mul ad ae))) (by omega) (fun x y => by unfold cad ccZ; grind)
theorem CTg.van {F : Type} [Lean.Grind.CommRing F] (hd : ∀ a b : F, a * b = 0 → a = 0 ∨ b = 0) (h2 : ∀ a : F, a + a = 0 → a = 0) {e e' : Nat} {U V : F → F → F × F × F} (h : CTg e U) (h' : CTg e' V) {s t : Nat → F} {m : Nat} (hm : 3 * (e + e') ≤ m) (hs : ∀ i j, i ≤ m → j ≤ m → s i = s j → i = j) (ho : ∀ i, i ≤ m → t i * t i = s i * s i * s i + 7 ∧ t i ≠ 0) (z1 : ∀ i, i ≤ m → mnr (U (s i) (t i)) (V (s i) (t i))) (z2 : ∀ i, i ≤ m → mnr (U (s i) (-(t i))) (V (s i) (-(t i)))) (x y : F) (hy : y * y = x * x * x + 7) : mnr (U x y) (V x y) := by
  obtain ⟨h1, h3, h4⟩ := h
  obtain ⟨k1, k2, k3⟩ := h'
  have hs' : ∀ i j, i ≤ 3 * (e + e') → j ≤ 3 * (e + e') → s i = s j → i = j := fun i j hi hj => hs i j (by omega) (by omega)
  have ho' : ∀ i, i ≤ 3 * (e + e') → t i * t i = s i * s i * s i + 7 ∧ t i ≠ 0 := fun i hi => ho i (by omega)
  refine ⟨?_, ?_, ?_⟩
  · exact CDg.van hd h2 (CDg.sub (CDg.mul h1 k2) (CDg.e (CDg.mul h3 k1) rfl (fun x y => Lean.Grind.CommSemiring.mul_comm _ _))) hs' ho' (fun i hi => (z1 i (by omega)).1) (fun i hi => (z2 i (by omega)).1) x y hy
  · exact CDg.van hd h2 (CDg.sub (CDg.mul h1 k3) (CDg.e (CDg.mul h4 k1) rfl (fun x y => Lean.Grind.CommSemiring.mul_comm _ _))) hs' ho' (fun i hi => (z1 i (by omega)).2.1) (fun i hi => (z2 i (by omega)).2.1) x y hy
  · exact CDg.van hd h2 (CDg.sub (CDg.mul h3 k3) (CDg.e (CDg.mul h4 k2) rfl (fun x y => Lean.Grind.CommSemiring.mul_comm _ _))) hs' ho' (fun i hi => (z1 i (by omega)).2.2) (fun i hi => (z2 i (by omega)).2.2) x y hy
def sgT {F : Type} [Lean.Grind.CommRing F] (u : Bool) (t : F) : F := if u then t else -t
theorem as_all {F : Type} [Lean.Grind.CommRing F] (hd : ∀ a b : F, a * b = 0 → a = 0 ∨ b = 0) (h2 : ∀ a : F, a + a = 0 → a = 0) {s t : Nat → F} (hs : ∀ i j, i ≤ 24 → j ≤ 24 → s i = s j → i = j) (ho : ∀ i, i ≤ 24 → t i * t i = s i * s i * s i + 7 ∧ t i ≠ 0) (hg : ∀ i j k u v w, i ≤ 24 → j ≤ 24 → k ≤ 24 → asO (s i, sgT u (t i), 1) (s j, sgT v (t j), 1) (s k, sgT w (t k), 1)) {x1 y1 x2 y2 x3 y3 : F} (o1 : y1 * y1 = x1 * x1 * x1 + 7) (o2 : y2 * y2 = x2 * x2 * x2 + 7) (o3 : y3 * y3 = x3 * x3 * x3 + 7) : asO (x1, y1, 1) (x2, y2, 1) (x3, y3, 1) := by
  have st3 : ∀ i j u v, i ≤ 24 → j ≤ 24 → asO (s i, sgT u (t i), 1) (s j, sgT v (t j), 1) (x3, y3, 1) := fun i j u v hi hj =>
    CTg.van hd h2 (m := 24) (CTg.ad (CTg.c (cad (s i, sgT u (t i), 1) (s j, sgT v (t j), 1))) CTg.pt) (CTg.ad (CTg.c (s i, sgT u (t i), 1)) (CTg.ad (CTg.c (s j, sgT v (t j), 1)) CTg.pt)) (by decide) hs ho (fun k hk => hg i j k u v true hi hj hk) (fun k hk => hg i j k u v false hi hj hk) x3 y3 o3
  have st2 : ∀ i u, i ≤ 24 → asO (s i, sgT u (t i), 1) (x2, y2, 1) (x3, y3, 1) := fun i u hi =>
    CTg.van hd h2 (m := 24) (CTg.ad (CTg.ad (CTg.c (s i, sgT u (t i), 1)) CTg.pt) (CTg.c (x3, y3, 1))) (CTg.ad (CTg.c (s i, sgT u (t i), 1)) (CTg.ad CTg.pt (CTg.c (x3, y3, 1)))) (by decide) hs ho (fun k hk => st3 i k u true hi hk) (fun k hk => st3 i k u false hi hk) x2 y2 o2
  exact CTg.van hd h2 (m := 24) (CTg.ad (CTg.ad CTg.pt (CTg.c (x2, y2, 1))) (CTg.c (x3, y3, 1))) (CTg.ad CTg.pt (CTg.c (cad (x2, y2, 1) (x3, y3, 1)))) (by decide) hs ho (fun k hk => st2 k true hk) (fun k hk => st2 k false hk) x1 y1 o1
