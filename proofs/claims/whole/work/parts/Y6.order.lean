/-! THE CURVE over any field: multiples, and how many points there are -/
noncomputable def muE {F : Type} [Lean.Grind.CommRing F] (iv : F → F) : Nat → Option (F × F) → Option (F × F)
  | 0, _ => none
  | k + 1, P => gaE iv (muE iv k P) P
theorem muE_on {F : Type} [Lean.Grind.CommRing F] {iv : F → F} (h : fdG iv) {P : Option (F × F)} (o : onE P) : ∀ k, onE (muE iv k P)
  | 0 => trivial
  | k + 1 => gaE_on h (muE_on h o k) o
theorem muE_1 {F : Type} [Lean.Grind.CommRing F] {iv : F → F} (h : fdG iv) {P : Option (F × F)} (o : onE P) : muE iv 1 P = P := gaE_o h o
theorem muE_add {F : Type} [Lean.Grind.CommRing F] {iv : F → F} (h : fdG iv) (ha : asA F) {P : Option (F × F)} (o : onE P) (a : Nat) : ∀ b, muE iv (a + b) P = gaE iv (muE iv a P) (muE iv b P)
  | 0 => (gaE_o2 h (muE_on h o a)).symm
  | b + 1 => by
    show gaE iv (muE iv (a + b) P) P = gaE iv (muE iv a P) (gaE iv (muE iv b P) P)
    rw [muE_add h ha o a b, gaE_as h ha (muE_on h o a) (muE_on h o b) o]
theorem muE_mul {F : Type} [Lean.Grind.CommRing F] {iv : F → F} (h : fdG iv) (ha : asA F) {P : Option (F × F)} (o : onE P) (b : Nat) : ∀ a, muE iv (a * b) P = muE iv a (muE iv b P)
  | 0 => by rw [Nat.zero_mul]; rfl
  | a + 1 => by
    rw [Nat.succ_mul, muE_add h ha o, muE_mul h ha o b a]
    rfl
theorem muE_n {F : Type} [Lean.Grind.CommRing F] {iv : F → F} (h : fdG iv) : ∀ k, muE iv k (none : Option (F × F)) = none
  | 0 => rfl
  | k + 1 => by
    show gaE iv (muE iv k none) none = none
    rw [muE_n h k]
    exact gaE_o h (P := none) trivial
theorem muE_g {F : Type} [Lean.Grind.CommRing F] {iv : F → F} (h : fdG iv) (ha : asA F) {P : Option (F × F)} (o : onE P) (a b : Nat) : muE iv a P = none → muE iv b P = none → muE iv (Nat.gcd a b) P = none := by
  refine Nat.gcd.induction (P := fun a b => muE iv a P = none → muE iv b P = none → muE iv (Nat.gcd a b) P = none) a b (fun n _ h2 => by rw [Nat.gcd_zero_left]; exact h2) (fun m n hm ih h1 h2 => ?_)
  rw [Nat.gcd_rec]
  refine ih ?_ h1
  have e : n = n / m * m + n % m := by rw [Nat.mul_comm]; exact (Nat.div_add_mod n m).symm
  rw [e, muE_add h ha o, muE_mul h ha o, h1, muE_n h, gaE_o h (muE_on h o _)] at h2
  exact h2
theorem mu_ord {F : Type} [Lean.Grind.CommRing F] {iv : F → F} (h : fdG iv) (ha : asA F) {n : Nat} (pn : isPr n) {P : Option (F × F)} (o : onE P) (hn : muE iv n P = none) (hP : P ≠ none) {t : Nat} (h0 : 0 < t) (ht : t < n) : muE iv t P ≠ none := fun e => by
  have h1 := muE_g h ha o t n e hn
  rcases pn.2 _ (Nat.gcd_dvd_right t n) with c | c
  · rw [c, muE_1 h o] at h1
    exact hP h1
  · have := Nat.le_of_dvd h0 (Nat.gcd_dvd_left t n)
    omega
theorem gaE_4 {F : Type} [Lean.Grind.CommRing F] {iv : F → F} (h : fdG iv) (ha : asA F) {A B C D : Option (F × F)} (oA : onE A) (oB : onE B) (oC : onE C) (oD : onE D) : gaE iv (gaE iv A B) (gaE iv C D) = gaE iv (gaE iv A C) (gaE iv B D) := by
  rw [gaE_as h ha oA oB (gaE_on h oC oD), ← gaE_as h ha oB oC oD, gaE_comm B C, gaE_as h ha oC oB oD, ← gaE_as h ha oA oC (gaE_on h oB oD)]
theorem muE_dist {F : Type} [Lean.Grind.CommRing F] {iv : F → F} (h : fdG iv) (ha : asA F) {P Q : Option (F × F)} (oP : onE P) (oQ : onE Q) : ∀ k, muE iv k (gaE iv P Q) = gaE iv (muE iv k P) (muE iv k Q)
  | 0 => (gaE_o h (P := none) trivial).symm
  | k + 1 => by
    show gaE iv (muE iv k (gaE iv P Q)) (gaE iv P Q) = gaE iv (gaE iv (muE iv k P) P) (gaE iv (muE iv k Q) Q)
    rw [muE_dist h ha oP oQ k, gaE_4 h ha (muE_on h oP k) (muE_on h oQ k) oP oQ]
theorem gaE_2 {F : Type} [Lean.Grind.CommRing F] {iv : F → F} (h : fdG iv) : ∀ {D : Option (F × F)}, onE D → gaE iv D D = none → D = none
  | none, _, _ => rfl
  | some q, o, e => by
    obtain ⟨x3, y3, e3, _⟩ := gaE_db h (x := q.1) (y := q.2) o
    have : gaE iv (some (q.1, q.2)) (some (q.1, q.2)) = none := e
    rw [e3] at this
    cases this
theorem gaE_2i {F : Type} [Lean.Grind.CommRing F] {iv : F → F} (h : fdG iv) (ha : asA F) {P X : Option (F × F)} (oP : onE P) (oX : onE X) (e : gaE iv P P = gaE iv X X) : P = X := by
  have oD := gaE_on h (ngE_on oX) oP
  have hP : P = gaE iv X (gaE iv (ngE X) P) := by rw [← gaE_as h ha oX (ngE_on oX) oP, gaE_ng h oX, gaE_o h oP]
  generalize gaE iv (ngE X) P = D at oD hP
  rw [hP, gaE_4 h ha oX oD oX oD] at e
  have oXX := gaE_on h oX oX
  have oDD := gaE_on h oD oD
  have e2 : gaE iv D D = none := gaE_can h ha oXX oDD (P := gaE iv D D) (Q := none) trivial (by rw [e, gaE_o2 h oXX])
  rw [hP, gaE_2 h oD e2, gaE_o2 h oX]
def cdE {F : Type} [Lean.Grind.CommRing F] (vl : F → Nat) (p : Nat) : Option (F × F) → Nat
  | none => 2 * p
  | some q => 2 * vl q.1 + vl q.2 % 2
theorem cdE_i {F : Type} [Lean.Grind.CommRing F] {iv : F → F} (h : fdG iv) {vl : F → Nat} {p : Nat} (hi : ∀ x y : F, vl x = vl y → x = y) (hl : ∀ x : F, vl x < p) (hn : ∀ y : F, y ≠ 0 → vl (-y) = p - vl y) (hp : p % 2 = 1) : ∀ {P Q : Option (F × F)}, onE P → onE Q → cdE vl p P = cdE vl p Q → P = Q
  | none, none, _, _, _ => rfl
  | none, some q, _, _, e => by
    have e1 : 2 * p = 2 * vl q.1 + vl q.2 % 2 := e
    have := hl q.1
    omega
  | some q, none, _, _, e => by
    have e1 : 2 * vl q.1 + vl q.2 % 2 = 2 * p := e
    have := hl q.1
    omega
  | some q, some q', oP, oQ, e => by
    have e1 : 2 * vl q.1 + vl q.2 % 2 = 2 * vl q'.1 + vl q'.2 % 2 := e
    have ex : q.1 = q'.1 := hi _ _ (by omega)
    have o1 : q.2 * q.2 = q.1 * q.1 * q.1 + 7 := oP
    have o2 : q'.2 * q'.2 = q'.1 * q'.1 * q'.1 + 7 := oQ
    have e2 : (q.2 - q'.2) * (q.2 + q'.2) = 0 := by rw [ex] at o1; grind
    rcases h.dom _ _ e2 with c | c
    · have ey : q.2 = q'.2 := by grind
      rw [show q = q' from Prod.ext ex ey]
    · exfalso
      have ey : q.2 = -q'.2 := by grind
      have := hn q'.2 (h.y0 o2)
      rw [← ey] at this
      have := hl q'.2
      omega
theorem mu_mod {F : Type} [Lean.Grind.CommRing F] {iv : F → F} (h : fdG iv) (ha : asA F) {n : Nat} {P : Option (F × F)} (o : onE P) (hn : muE iv n P = none) (k : Nat) : muE iv k P = muE iv (k % n) P := by
  have e : k = k / n * n + k % n := by rw [Nat.mul_comm]; exact (Nat.div_add_mod k n).symm
  have e2 : muE iv k P = muE iv (k / n * n + k % n) P := by rw [← e]
  rw [e2, muE_add h ha o, muE_mul h ha o, hn, muE_n h, gaE_o h (muE_on h o _)]
theorem mu_lag {F : Type} [Lean.Grind.CommRing F] {iv : F → F} (h : fdG iv) (ha : asA F) {vl : F → Nat} {p n : Nat} (hi : ∀ x y : F, vl x = vl y → x = y) (hl : ∀ x : F, vl x < p) (hn : ∀ y : F, y ≠ 0 → vl (-y) = p - vl y) (hp : p % 2 = 1) (h3 : 2 * p + 1 < 3 * n) (pn : isPr n) (n2 : n % 2 = 1) {G P : Option (F × F)} (oG : onE G) (gN : G ≠ none) (nG : muE iv n G = none) (oP : onE P) : ∃ k, k < n ∧ P = muE iv k G := Classical.byContradiction fun x => by
  have no : ∀ k, P ≠ muE iv k G := fun k e => x ⟨k % n, Nat.mod_lt _ (by have := pn.1; omega), by rw [← mu_mod h ha oG nG]; exact e⟩
  have n0 : 0 < n := by have := pn.1; omega
  have key : ∀ a b u w, a ≤ b → b < 3 → u < n → w < n → gaE iv (muE iv a P) (muE iv u G) = gaE iv (muE iv b P) (muE iv w G) → a = b ∧ u = w := by
    intro a b u w hab hb hu hw e
    obtain ⟨t, rfl⟩ := Nat.le.dest hab
    rw [muE_add h ha oP, gaE_as h ha (muE_on h oP a) (muE_on h oP t) (muE_on h oG w)] at e
    have e1 := gaE_can h ha (muE_on h oP a) (muE_on h oG u) (gaE_on h (muE_on h oP t) (muE_on h oG w)) e
    have e2 : muE iv (u + (n - w)) G = muE iv t P := by
      rw [muE_add h ha oG, e1, gaE_as h ha (muE_on h oP t) (muE_on h oG w) (muE_on h oG _), ← muE_add h ha oG, show w + (n - w) = n by omega, nG, gaE_o2 h (muE_on h oP t)]
    rcases t with _ | _ | _ | t
    · refine ⟨rfl, ?_⟩
      have e3 : muE iv ((u + (n - w)) % n) G = none := by rw [← mu_mod h ha oG nG]; exact e2
      by_cases c : (u + (n - w)) % n = 0
      · rcases Nat.lt_or_ge u w with d | d
        · rw [Nat.mod_eq_of_lt (by omega)] at c
          omega
        · rw [show u + (n - w) = (u - w) + n by omega, Nat.add_mod_right, Nat.mod_eq_of_lt (by omega)] at c
          omega
      · exact absurd e3 (mu_ord h ha pn oG nG gN (by omega) (Nat.mod_lt _ n0))
    · rw [Nat.zero_add, muE_1 h oP] at e2
      exact absurd e2.symm (no _)
    · exfalso
      have e3 : muE iv (0 + 1 + 1) P = gaE iv P P := by
        show gaE iv (muE iv 1 P) P = _
        rw [muE_1 h oP]
      rw [e3] at e2
      generalize u + (n - w) = k at e2
      have half : ∃ m, muE iv k G = gaE iv (muE iv m G) (muE iv m G) := by
        by_cases c : k % 2 = 0
        · exact ⟨k / 2, by rw [← muE_add h ha oG, show k / 2 + k / 2 = k by omega]⟩
        · refine ⟨(k + n) / 2, ?_⟩
          rw [← muE_add h ha oG, show (k + n) / 2 + (k + n) / 2 = k + n by omega, muE_add h ha oG, nG, gaE_o2 h (muE_on h oG k)]
      obtain ⟨m, hm⟩ := half
      rw [hm] at e2
      exact no m (gaE_2i h ha oP (muE_on h oG m) e2.symm)
    · omega
  have oS : ∀ a u, onE (gaE iv (muE iv a P) (muE iv u G)) := fun a u => gaE_on h (muE_on h oP a) (muE_on h oG u)
  have := pg_hole (2 * p + 1) (3 * n) (fun i => cdE vl p (gaE iv (muE iv (i / n) P) (muE iv (i % n) G))) (fun i _ => by
    show cdE vl p (gaE iv (muE iv (i / n) P) (muE iv (i % n) G)) < 2 * p + 1
    generalize gaE iv (muE iv (i / n) P) (muE iv (i % n) G) = q
    rcases q with _ | q
    · show 2 * p < 2 * p + 1
      omega
    · show 2 * vl q.1 + vl q.2 % 2 < 2 * p + 1
      have := hl q.1
      omega) (fun i j hi2 hj2 e => by
    have e1 := cdE_i h hi hl hn hp (oS _ _) (oS _ _) e
    have b1 : i / n < 3 := Nat.div_lt_of_lt_mul (by rw [Nat.mul_comm]; exact hi2)
    have b2 : j / n < 3 := Nat.div_lt_of_lt_mul (by rw [Nat.mul_comm]; exact hj2)
    have m1 := Nat.mod_lt i n0
    have m2 := Nat.mod_lt j n0
    have q : i / n = j / n ∧ i % n = j % n := by
      rcases Nat.le_total (i / n) (j / n) with c | c
      · exact key _ _ _ _ c b2 m1 m2 e1
      · have := key _ _ _ _ c b1 m2 m1 e1.symm
        exact ⟨this.1.symm, this.2.symm⟩
    rw [← Nat.div_add_mod i n, ← Nat.div_add_mod j n, q.1, q.2])
  omega
theorem mu_all {F : Type} [Lean.Grind.CommRing F] {iv : F → F} (h : fdG iv) (ha : asA F) {vl : F → Nat} {p n : Nat} (hi : ∀ x y : F, vl x = vl y → x = y) (hl : ∀ x : F, vl x < p) (hn : ∀ y : F, y ≠ 0 → vl (-y) = p - vl y) (hp : p % 2 = 1) (h3 : 2 * p + 1 < 3 * n) (pn : isPr n) (n2 : n % 2 = 1) {G P : Option (F × F)} (oG : onE G) (gN : G ≠ none) (nG : muE iv n G = none) (oP : onE P) (hP : P ≠ none) {t : Nat} (h0 : 0 < t) (ht : t < n) : muE iv t P ≠ none := by
  obtain ⟨k, _, e⟩ := mu_lag h ha hi hl hn hp h3 pn n2 oG gN nG oP
  refine mu_ord h ha pn oP ?_ hP h0 ht
  rw [e, ← muE_mul h ha oG, Nat.mul_comm, muE_mul h ha oG, nG, muE_n h]
