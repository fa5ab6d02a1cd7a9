/-! THE CURVE: numbers modulo p as a field -/
def fdC {F : Type} [Lean.Grind.CommRing F] (c : Nat → F) (vl : F → Nat) : Prop := (∀ a b, c (a * b) = c a * c b) ∧ (∀ a b, c (a + b) = c a + c b) ∧ c 1 = 1 ∧ (∀ x, vl x < pP) ∧ (∀ x, c (vl x) = x) ∧ ∀ a, vl (c a) = a % pP
theorem fdC.md {F : Type} [Lean.Grind.CommRing F] {c : Nat → F} {vl : F → Nat} (h : fdC c vl) (a : Nat) : c (a % pP) = c a := by
  have e : vl (c (a % pP)) = vl (c a) := by rw [h.2.2.2.2.2, h.2.2.2.2.2, Nat.mod_mod]
  rw [← h.2.2.2.2.1 (c (a % pP)), e, h.2.2.2.2.1]
theorem fdC.c0 {F : Type} [Lean.Grind.CommRing F] {c : Nat → F} {vl : F → Nat} (h : fdC c vl) : c 0 = 0 := by
  have e : c (0 + 0) = c 0 + c 0 := h.2.1 0 0
  rw [Nat.add_zero] at e
  grind
theorem fdC.i {F : Type} [Lean.Grind.CommRing F] {c : Nat → F} {vl : F → Nat} (h : fdC c vl) {a b : Nat} (e : c a = c b) : a % pP = b % pP := by rw [← h.2.2.2.2.2, e, h.2.2.2.2.2]
theorem fdC.il {F : Type} [Lean.Grind.CommRing F] {c : Nat → F} {vl : F → Nat} (h : fdC c vl) {a b : Nat} (ha : a < pP) (hb : b < pP) (e : c a = c b) : a = b := by
  have := h.i e
  rw [Nat.mod_eq_of_lt ha, Nat.mod_eq_of_lt hb] at this
  exact this
theorem fdC.z {F : Type} [Lean.Grind.CommRing F] {c : Nat → F} {vl : F → Nat} (h : fdC c vl) {a : Nat} (ha : a < pP) : c a = 0 ↔ a = 0 := by
  refine ⟨fun e => h.il ha (by have := pP_2; omega) (by rw [e, h.c0]), fun e => by rw [e, h.c0]⟩
theorem fdC.mm {F : Type} [Lean.Grind.CommRing F] {c : Nat → F} {vl : F → Nat} (h : fdC c vl) (a b : Nat) : c (mM a b) = c a * c b := by
  show c (a * b % pP) = _
  rw [h.md, h.1]
theorem fdC.aa {F : Type} [Lean.Grind.CommRing F] {c : Nat → F} {vl : F → Nat} (h : fdC c vl) (a b : Nat) : c (aM a b) = c a + c b := by
  show c ((a + b) % pP) = _
  rw [h.md, h.2.1]
theorem fdC.cp {F : Type} [Lean.Grind.CommRing F] {c : Nat → F} {vl : F → Nat} (h : fdC c vl) : c pP = 0 := by rw [← h.md, Nat.mod_self, h.c0]
theorem fdC.ng {F : Type} [Lean.Grind.CommRing F] {c : Nat → F} {vl : F → Nat} (h : fdC c vl) {b : Nat} (hb : b ≤ pP) : c (pP - b) = -(c b) := by
  have e : c (pP - b) + c b = 0 := by rw [← h.2.1, Nat.sub_add_cancel hb, h.cp]
  grind
theorem fdC.ss {F : Type} [Lean.Grind.CommRing F] {c : Nat → F} {vl : F → Nat} (h : fdC c vl) (a : Nat) {b : Nat} (hb : b ≤ pP) : c (sM a b) = c a - c b := by
  show c ((a + (pP - b)) % pP) = _
  rw [h.md, h.2.1, h.ng hb]
  grind
theorem fdC.c3 {F : Type} [Lean.Grind.CommRing F] {c : Nat → F} {vl : F → Nat} (h : fdC c vl) : c 3 = 3 := by
  show c (1 + 1 + 1) = 3
  rw [h.2.1, h.2.1, h.2.2.1]
  grind
theorem fdC.c7 {F : Type} [Lean.Grind.CommRing F] {c : Nat → F} {vl : F → Nat} (h : fdC c vl) : c 7 = 7 := by
  show c (3 + 3 + 1) = 7
  rw [h.2.1, h.2.1, h.2.2.1, h.c3]
  grind
theorem fdC.c21 {F : Type} [Lean.Grind.CommRing F] {c : Nat → F} {vl : F → Nat} (h : fdC c vl) : c 21 = 21 := by
  show c (3 * 7) = 21
  rw [h.1, h.c3, h.c7]
  grind
theorem fdC.c63 {F : Type} [Lean.Grind.CommRing F] {c : Nat → F} {vl : F → Nat} (h : fdC c vl) : c 63 = 63 := by
  show c (3 * 21) = 63
  rw [h.1, h.c3, h.c21]
  grind
theorem fdC.vi {F : Type} [Lean.Grind.CommRing F] {c : Nat → F} {vl : F → Nat} (h : fdC c vl) (x y : F) (e : vl x = vl y) : x = y := by rw [← h.2.2.2.2.1 x, e, h.2.2.2.2.1]
theorem fdC.vn {F : Type} [Lean.Grind.CommRing F] {c : Nat → F} {vl : F → Nat} (h : fdC c vl) (y : F) (hy : y ≠ 0) : vl (-y) = pP - vl y := by
  have l := h.2.2.2.1 y
  have v0 : vl y ≠ 0 := fun e => hy (by rw [← h.2.2.2.2.1 y, e, h.c0])
  have e : -y = c (pP - vl y) := by rw [h.ng (Nat.le_of_lt l), h.2.2.2.2.1]
  rw [e, h.2.2.2.2.2, Nat.mod_eq_of_lt (by omega)]
/-- what inverts -/
def ivF {F : Type} [Lean.Grind.CommRing F] (c : Nat → F) (vl : F → Nat) (x : F) : F := c (ivM (vl x))
theorem ivM_1 {z : Nat} (h0 : z % pP ≠ 0) : z * ivM z % pP = 1 := by
  obtain ⟨k, hk⟩ : ∃ k, pP = k + 1 + 1 := ⟨pP - 2, by have := pP_2; omega⟩
  have e : pP - 2 = k := by omega
  have f := pr_Pf hk z h0
  unfold ivM
  rw [e, Nat.mul_mod, Nat.mod_mod, ← Nat.mul_mod, Nat.mul_comm, ← Nat.pow_succ]
  exact f
theorem fdC.iv {F : Type} [Lean.Grind.CommRing F] {c : Nat → F} {vl : F → Nat} (h : fdC c vl) (a : F) (ha : a ≠ 0) : a * ivF c vl a = 1 := by
  have l := h.2.2.2.1 a
  have v0 : vl a ≠ 0 := fun e => ha (by rw [← h.2.2.2.2.1 a, e, h.c0])
  have e := ivM_1 (z := vl a) (by rw [Nat.mod_eq_of_lt l]; exact v0)
  unfold ivF
  have e2 : a * c (ivM (vl a)) = c (vl a * ivM (vl a)) := by rw [h.1, h.2.2.2.2.1]
  rw [e2, ← h.md, e, h.2.2.1]
theorem fdC.h2 {F : Type} [Lean.Grind.CommRing F] {c : Nat → F} {vl : F → Nat} (h : fdC c vl) (a : F) (ha : a + a = 0) : a = 0 := by
  obtain ⟨k, hk⟩ : ∃ k, k + k = pP + 1 := ⟨(pP + 1) / 2, by decide +kernel⟩
  have e : c k + c k = 1 := by rw [← h.2.1, hk, h.2.1, h.cp, h.2.2.1]; grind
  have e2 : a = (a + a) * c k := by
    have : (a + a) * c k = a * (c k + c k) := by grind
    rw [this, e]
    grind
  rw [e2, ha]
  grind
/-- -7 is no cube -/
theorem no_cub (a : Nat) : (a * a * a + 7) % pP ≠ 0 := fun e => by
  obtain ⟨m, hm⟩ : ∃ m, pP = 3 * m + 1 := ⟨(pP - 1) / 3, by decide +kernel⟩
  have hk : pwM pP 256 (pP - 7) ((pP - 1) / 3) ≠ 1 := by decide +kernel
  have hb : (pP - 1) / 3 < 2 ^ 256 := by decide +kernel
  rw [pwM_e _ _ _ _ hb] at hk
  have h7 : 7 < pP := by decide +kernel
  have f := fun ha => pr_Pf (m := 3 * m) hm a ha
  generalize pP = p at *
  have em : (p - 1) / 3 = m := by omega
  rw [em] at hk
  have hs : a * a * a % p = p - 7 := by
    rw [Nat.add_mod, Nat.mod_eq_of_lt h7] at e
    have l := Nat.mod_lt (a * a * a) (show 0 < p by omega)
    generalize a * a * a % p = s at e l
    rcases Nat.lt_or_ge (s + 7) p with c | c
    · rw [Nat.mod_eq_of_lt c] at e
      omega
    · rw [Nat.mod_eq_sub_mod c] at e
      rw [Nat.mod_eq_of_lt (by omega)] at e
      omega
  have ha : a % p ≠ 0 := fun z => by
    rw [Nat.mul_mod, z, Nat.mul_zero, Nat.zero_mod] at hs
    omega
  have f1 := f ha
  have e3 : a ^ 3 = a * a * a := by rw [Nat.pow_succ, Nat.pow_two]
  rw [Nat.pow_mul, e3, Nat.pow_mod, hs] at f1
  exact hk f1
theorem fdC.cb {F : Type} [Lean.Grind.CommRing F] {c : Nat → F} {vl : F → Nat} (h : fdC c vl) (x : F) : x * x * x + 7 ≠ 0 := fun e => by
  have e2 : c (vl x * vl x * vl x + 7) = c 0 := by rw [h.2.1, h.1, h.1, h.2.2.2.2.1, h.c7, e, h.c0]
  have e3 := h.i e2
  rw [Nat.zero_mod] at e3
  exact no_cub _ e3
theorem fdC.n1 {F : Type} [Lean.Grind.CommRing F] {c : Nat → F} {vl : F → Nat} (h : fdC c vl) : (1 : F) ≠ 0 := fun e => by
  have e2 : c 1 = c 0 := by rw [h.2.2.1, h.c0, e]
  have := h.il (by have := pP_2; omega) (by have := pP_2; omega) e2
  omega
theorem fdC.g {F : Type} [Lean.Grind.CommRing F] {c : Nat → F} {vl : F → Nat} (h : fdC c vl) : fdG (ivF c vl) := ⟨h.iv, h.h2, h.cb, h.n1⟩
