/-! THE REFERENCE: its field -/
def muP : Nat := 3525653809
def riP : Nat := 91248989341183975618893650062416139444822672217621753343178995607984094583082
theorem rN_p : rgN pP muP riP := ⟨by decide +kernel, by decide +kernel, by decide +kernel⟩
/-- a row of the field that holds x -/
def fX (S : ks_S) (a x : Nat) : Prop := wA S a (x * 2 ^ 256 % pP) ∧ x < pP
theorem fX.up {S S1 : ks_S} {a x : Nat} {L : List Nat} (h : fX S a x) (hu : ks_up S S1 L) (ha : a ∉ L) : fX S1 a x := ⟨h.1.up hu ha, h.2⟩
theorem fx_lt (x : Nat) : x * 2 ^ 256 % pP < pP := Nat.mod_lt _ (by decide)
theorem fx_inj {x y : Nat} (hx : x < pP) (hy : y < pP) : x * 2 ^ 256 % pP = y * 2 ^ 256 % pP ↔ x = y := by
  constructor
  · intro h
    have h1 : x * 2 ^ 256 % pP * 1 * riP % pP = y * 2 ^ 256 % pP * 1 * riP % pP := by rw [h]
    rw [mont_out rN_p.2.1, mont_out rN_p.2.1, Nat.mod_eq_of_lt hx, Nat.mod_eq_of_lt hy] at h1
    exact h1
  · intro h; rw [h]
theorem fx_mul (x y : Nat) : (x * 2 ^ 256 % pP) * (y * 2 ^ 256 % pP) * riP % pP = mM x y * 2 ^ 256 % pP := by
  rw [mont_mul rN_p.2.1]
  unfold mM
  rw [Nat.mul_mod (x * y % pP), Nat.mod_mod, ← Nat.mul_mod]
theorem fx_add (x y : Nat) : (x * 2 ^ 256 % pP + y * 2 ^ 256 % pP) % pP = aM x y * 2 ^ 256 % pP := by
  unfold aM
  rw [← Nat.add_mod, ← Nat.add_mul, Nat.mul_mod ((x + y) % pP), Nat.mod_mod, ← Nat.mul_mod]
theorem sub_of_add {v B A m : Nat} (hv : v < m) (hB : B < m) (h : (v + B) % m = A) : (A + m - B) % m = v := by
  by_cases c : v + B < m
  · rw [Nat.mod_eq_of_lt c] at h
    subst h
    rw [show v + B + m - B = v + m by omega, Nat.add_mod_right, Nat.mod_eq_of_lt hv]
  · rw [Nat.mod_eq_sub_mod (by omega), Nat.mod_eq_of_lt (by omega)] at h
    subst h
    rw [show v + B - m + m - B = v by omega, Nat.mod_eq_of_lt hv]
theorem fx_sub {x y : Nat} (hy : y < pP) : (x * 2 ^ 256 % pP + pP - y * 2 ^ 256 % pP) % pP = sM x y * 2 ^ 256 % pP := by
  refine sub_of_add (fx_lt _) (fx_lt _) ?_
  unfold sM
  rw [← Nat.add_mod, ← Nat.add_mul, Nat.mul_mod, Nat.add_mod ((x + (pP - y)) % pP), Nat.mod_mod, ← Nat.add_mod, ← Nat.mul_mod, show x + (pP - y) + y = x + pP by omega, Nat.mul_mod, Nat.add_mod_right, ← Nat.mul_mod]
/-- the rows of the field -/
def rwL : List Nat := [308, 309, 310, 312, 313, 314, 316, 317, 318, 320, 321, 322, 323, 324, 325, 326, 327, 328]
theorem rwL_b : ∀ k ∈ rwL, 308 ≤ k ∧ k ≤ 328 ∧ k ≠ 311 ∧ k ≠ 315 ∧ k ≠ 319 := by decide
abbrev pnO (o : Nat) : ks_E := .inr (17, [.ref (o + 1), .ref (o + 2), .ref (o + 3)])
/-- the reference's points and rows: R tells their values -/
def cvR (S : ks_S) (R : Nat → Nat) : Prop := rgF S 547 pP muP ∧ (∀ k ∈ rwL, fX S k (R k)) ∧ S.2.2 307 = some (pnO 307) ∧ S.2.2 311 = some (pnO 311) ∧ S.2.2 315 = some (pnO 315) ∧ S.2.2 319 = some (pnO 319)
theorem cvR.up {S S1 : ks_S} {R : Nat → Nat} {L : List Nat} (h : cvR S R) (hu : ks_up S S1 L) (hL : ∀ x ∈ L, (x < 307 ∨ 328 < x) ∧ (x < 547 ∨ 554 < x)) : cvR S1 R := by
  have n : ∀ x, 307 ≤ x → x ≤ 328 → x ∉ L := fun x a b q => by have := (hL x q).1; omega
  obtain ⟨h1, h2, h3, h4, h5, h6⟩ := h
  exact ⟨h1.up hu (fun x q => (hL x q).2), fun k hk => (h2 k hk).up hu (n k (by have := rwL_b k hk; omega) (rwL_b k hk).2.1), hu.at h3 (n _ (by decide) (by decide)), hu.at h4 (n _ (by decide) (by decide)), hu.at h5 (n _ (by decide) (by decide)), hu.at h6 (n _ (by decide) (by decide))⟩
/-- one row anew -/
theorem cvR.row {S S1 : ks_S} {R : Nat → Nat} {t v : Nat} {L : List Nat} (h : cvR S R) (ht : t ∈ rwL) (hu : ks_up S S1 L) (hL : ∀ x ∈ L, x = t ∨ ((x < 307 ∨ 328 < x))) (hF : rgF S1 547 pP muP) (hv : fX S1 t v) : cvR S1 (va_up R t v) := by
  have hb := rwL_b t ht
  have n : ∀ x, 307 ≤ x → x ≤ 328 → x ≠ t → x ∉ L := fun x a b e q => by have := hL x q; omega
  obtain ⟨h1, h2, h3, h4, h5, h6⟩ := h
  refine ⟨hF, fun k hk => ?_, hu.at h3 (n _ (by decide) (by decide) (by omega)), hu.at h4 (n _ (by decide) (by decide) (by omega)), hu.at h5 (n _ (by decide) (by decide) (by omega)), hu.at h6 (n _ (by decide) (by decide) (by omega))⟩
  have hkb := rwL_b k hk
  by_cases e : k = t
  · subst e; rw [va_up_self]; exact hv
  · rw [va_up_ne _ _ e]; exact (h2 k hk).up hu (n k (by omega) hkb.2.1 e)
theorem c_fm {l : Launch} {G : ks_G} {d : Nat} {S : ks_S} {R : Nat → Nat} {a b t : Nat} (h : cvR S R) (ha : a ∈ rwL) (hb : b ∈ rwL) (ht : t ∈ rwL) : ks_P l G yX15_multiply mX15_multiply (d + 1) [.ref 547, .ref a, .ref b, .ref t] S (fun z S' => z = none ∧ ks_up S S' [552, t] ∧ cvR S' (va_up R t (mM (R a) (R b)))) := by
  have ka := rwL_b a ha
  have kb := rwL_b b hb
  have kt := rwL_b t ht
  have kB : 600 < ks_B := by decide
  refine (c_rg_mulF h.1 rN_p (h.2.1 a ha).1 (h.2.1 b hb).1 (h.2.1 t ht).1 ⟨by omega, by omega⟩ ⟨by omega, by omega⟩ ⟨by omega, by omega⟩ (fx_lt _)).mono ?_
  rintro z S' ⟨rfl, hu, hF, hw⟩
  rw [fx_mul] at hw
  exact ⟨rfl, hu, h.row ht hu (fun x hx => by simp only [List.mem_cons, List.not_mem_nil, or_false] at hx; omega) hF ⟨hw, mM_lt _ _⟩⟩
theorem c_fa {l : Launch} {G : ks_G} {d : Nat} {S : ks_S} {R : Nat → Nat} {a b t : Nat} (h : cvR S R) (ha : a ∈ rwL) (hb : b ∈ rwL) (ht : t ∈ rwL) : ks_P l G yX15_add mX15_add (d + 1) [.ref 547, .ref a, .ref b, .ref t] S (fun z S' => z = none ∧ ks_up S S' [552, t] ∧ cvR S' (va_up R t (aM (R a) (R b)))) := by
  have kt := rwL_b t ht
  have kB : 600 < ks_B := by decide
  refine (c_rg_add h.1.1.1 h.1.1.2.1 (by omega) (h.2.1 a ha).1 (h.2.1 b hb).1 (h.2.1 t ht).1 (by omega) (by omega) (fx_lt _) (fx_lt _)).mono ?_
  rintro z S' ⟨rfl, hu, hw⟩
  rw [fx_add] at hw
  exact ⟨rfl, hu.mono (fun x hx => List.mem_cons_of_mem _ hx), h.row ht hu (fun x hx => by simp only [List.mem_cons, List.not_mem_nil, or_false] at hx; omega) (h.1.up hu (fun x hx => by simp only [List.mem_cons, List.not_mem_nil, or_false] at hx; omega)) ⟨hw, aM_lt _ _⟩⟩
theorem c_fs {l : Launch} {G : ks_G} {d : Nat} {S : ks_S} {R : Nat → Nat} {a b t : Nat} (h : cvR S R) (ha : a ∈ rwL) (hb : b ∈ rwL) (ht : t ∈ rwL) : ks_P l G yX15_subtract mX15_subtract (d + 1) [.ref 547, .ref a, .ref b, .ref t] S (fun z S' => z = none ∧ ks_up S S' [552, t] ∧ cvR S' (va_up R t (sM (R a) (R b)))) := by
  have kt := rwL_b t ht
  have kB : 600 < ks_B := by decide
  refine (c_rg_subtract h.1.1.1 h.1.1.2.1 (by omega) (h.2.1 a ha).1 (h.2.1 b hb).1 (h.2.1 t ht).1 (by omega) (by omega) (fx_lt _) (fx_lt _)).mono ?_
  rintro z S' ⟨rfl, hu, hw⟩
  rw [fx_sub (h.2.1 b hb).2] at hw
  exact ⟨rfl, hu.mono (fun x hx => List.mem_cons_of_mem _ hx), h.row ht hu (fun x hx => by simp only [List.mem_cons, List.not_mem_nil, or_false] at hx; omega) (h.1.up hu (fun x hx => by simp only [List.mem_cons, List.not_mem_nil, or_false] at hx; omega)) ⟨hw, sM_lt _ _⟩⟩
theorem c_fz {l : Launch} {G : ks_G} {d : Nat} {S : ks_S} {R : Nat → Nat} {a : Nat} (h : cvR S R) (ha : a ∈ rwL) : ks_P l G yX15_isZero mX15_isZero d [.ref a] S (fun z S' => z = some (.int (ks_bo (decide (R a = 0)))) ∧ S' = S) := by
  have ka := rwL_b a ha
  have kB : 600 < ks_B := by decide
  refine (c_rg_isZero (h.2.1 a ha).1 (by omega)).mono ?_
  rintro z S' ⟨rfl, rfl⟩
  have e : (R a * 2 ^ 256 % pP = 0) ↔ R a = 0 := by
    have := fx_inj (h.2.1 a ha).2 (show 0 < pP by decide)
    rw [Nat.zero_mul, Nat.zero_mod] at this
    exact this
  rw [decide_eq_decide.mpr e]
  exact ⟨rfl, rfl⟩
theorem c_fc {l : Launch} {G : ks_G} {d : Nat} {S : ks_S} {R : Nat → Nat} {a t : Nat} (h : cvR S R) (ha : a ∈ rwL) (ht : t ∈ rwL) : ks_P l G yX15_copy mX15_copy d [.ref a, .ref t] S (fun z S' => z = none ∧ ks_up S S' [t] ∧ cvR S' (va_up R t (R a))) := by
  have kt := rwL_b t ht
  have kB : 600 < ks_B := by decide
  refine (c_rg_copy (h.2.1 a ha).1 (h.2.1 t ht).1 (by omega)).mono ?_
  rintro z S' ⟨rfl, hu, hw⟩
  exact ⟨rfl, hu, h.row ht hu (fun x hx => by simp only [List.mem_cons, List.not_mem_nil, or_false] at hx; omega) (h.1.up hu (fun x hx => by simp only [List.mem_cons, List.not_mem_nil, or_false] at hx; omega)) ⟨hw, (h.2.1 a ha).2⟩⟩
