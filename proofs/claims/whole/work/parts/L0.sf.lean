/-! THE REFERENCE: what the stack's steps leave -/
theorem sfK.at {L : List Nat} {S S1 : ks_S} {F F' : Nat} (hu : sfK L S S1 F F') {a : Nat} {e : ks_E} (ha : S.2.2 a = some e) (hn : a ∉ L) (he : ∀ g, e ≠ kB 520 g := by first | exact fun g h => by cases h | exact fun g h => absurd (kB_lq h) (by decide)) : S1.2.2 a = some e := hu.2 a e ha hn he
theorem wA.sf {S S1 : ks_S} {a V F F' : Nat} {L : List Nat} (h : wA S a V) (hu : sfK L S S1 F F') (ha : a ∉ L) : wA S1 a V := by
  obtain ⟨g, h1, h2, h3⟩ := h
  exact ⟨g, hu.at h1 ha, h2, h3⟩
theorem rgX.sf {S S1 : ks_S} {o m F F' : Nat} {mn : Int32} {L : List Nat} (h : rgX S o m mn) (hu : sfK L S S1 F F') (h1 : o ∉ L) (h2 : o + 1 ∉ L) (h3 : o + 5 ∉ L) : rgX S1 o m mn := by
  obtain ⟨a, b, ⟨g, c1, c2⟩, d⟩ := h
  exact ⟨hu.at a h1, b.sf hu h2, ⟨g, hu.at c1 h3, c2⟩, d⟩
theorem rgF.sf {S S1 : ks_S} {o m mu F F' : Nat} {L : List Nat} (h : rgF S o m mu) (hu : sfK L S S1 F F') (hL : ∀ x ∈ L, x < o ∨ o + 7 < x) : rgF S1 o m mu := by
  have n : ∀ k, k ≤ 7 → o + k ∉ L := fun k hk q => by have := hL _ q; omega
  obtain ⟨h1, h2, h3, h4, ⟨V, h5⟩, ⟨W, h6⟩⟩ := h
  exact ⟨h1.sf hu (n 0 (by decide)) (n 1 (by decide)) (n 5 (by decide)), h2.sf hu (n 2 (by decide)), h3.sf hu (n 3 (by decide)), h4.sf hu (n 4 (by decide)), ⟨V, h5.sf hu (n 6 (by decide))⟩, ⟨W, h6.sf hu (n 7 (by decide))⟩⟩
theorem fX.sf {S S1 : ks_S} {a x F F' : Nat} {L : List Nat} (h : fX S a x) (hu : sfK L S S1 F F') (ha : a ∉ L) : fX S1 a x := ⟨h.1.sf hu ha, h.2⟩
theorem cvR.sf {S S1 : ks_S} {R : Nat → Nat} {F F' : Nat} {L : List Nat} (h : cvR S R) (hu : sfK L S S1 F F') (hL : ∀ x ∈ L, (x < 307 ∨ 328 < x) ∧ (x < 547 ∨ 554 < x)) : cvR S1 R := by
  have n : ∀ x, 307 ≤ x → x ≤ 328 → x ∉ L := fun x a b q => by have := (hL x q).1; omega
  obtain ⟨h1, h2, h3, h4, h5, h6⟩ := h
  exact ⟨h1.sf hu (fun x q => (hL x q).2), fun k hk => (h2 k hk).sf hu (n k (by have := rwL_b k hk; omega) (rwL_b k hk).2.1), hu.at h3 (n _ (by decide) (by decide)), hu.at h4 (n _ (by decide) (by decide)), hu.at h5 (n _ (by decide) (by decide)), hu.at h6 (n _ (by decide) (by decide))⟩
theorem exW.sf {S S1 : ks_S} {F F' : Nat} {L : List Nat} (h : exW S) (hu : sfK L S S1 F F') (hn : ∀ k ∈ L, k < 329 ∨ 335 < k) : exW S1 := fun k h1 h2 => by
  obtain ⟨V, hV⟩ := h k h1 h2
  exact ⟨V, hV.sf hu (fun hm => by have := hn k hm; omega)⟩
theorem mhR.sf {S S1 : ks_S} {F F' : Nat} {L : List Nat} (h : mhR S) (hu : sfK L S S1 F F') (hL : ∀ x ∈ L, x < 291 ∨ 299 < x) : mhR S1 := by
  have n : ∀ x, 291 ≤ x → x ≤ 299 → x ∉ L := fun x a b q => by have := hL x q; omega
  obtain ⟨⟨g, k, h1⟩, ⟨F, h2⟩, ⟨f, h3⟩, h4, h5, ⟨v, h6⟩⟩ := h
  exact ⟨⟨g, k, hu.at h1 (n _ (by decide) (by decide))⟩, ⟨F, hu.at h2 (n _ (by decide) (by decide))⟩, ⟨f, hu.at h3 (n _ (by decide) (by decide))⟩, hu.at h4 (n _ (by decide) (by decide)), hu.at h5 (n _ (by decide) (by decide)), ⟨v, hu.at h6 (n _ (by decide) (by decide))⟩⟩
theorem mrR.sf {S S1 : ks_S} {F F' : Nat} {L : List Nat} (h : mrR S) (hu : sfK L S S1 F F') (hL : ∀ x ∈ L, x < 300 ∨ 304 < x) : mrR S1 := by
  have n : ∀ x, 300 ≤ x → x ≤ 304 → x ∉ L := fun x a b q => by have := hL x q; omega
  obtain ⟨h1, h2, h3, ⟨f, h4⟩, ⟨v, h5⟩⟩ := h
  exact ⟨hu.at h1 (n _ (by decide) (by decide)), hu.at h2 (n _ (by decide) (by decide)), hu.at h3 (n _ (by decide) (by decide)), ⟨f, hu.at h4 (n _ (by decide) (by decide))⟩, ⟨v, hu.at h5 (n _ (by decide) (by decide))⟩⟩
theorem ptQ.sf {S S1 : ks_S} {P y N L t b k p m u e F F' : Nat} {G : Nat → Nat} {X : List Nat} (h : ptQ S P y N G L t b k p m u e) (hN : N ≠ 520) (hu : sfK X S S1 F F') (hX : ∀ x ∈ X, x ≠ y ∧ (x < P ∨ P + 6 < x)) : ptQ S1 P y N G L t b k p m u e := by
  obtain ⟨g, A, c, ⟨h1, h2⟩, h3, h4, h5, h6, h7, h8⟩ := h
  exact ⟨g, A, c, ⟨hu.at h1 (fun hm => (hX _ hm).1 rfl) (fun g h => hN (kB_lq h)), h2⟩, h3, h4, h5, hu.at h6 (fun hm => by have := hX _ hm; omega), fun r hr => hu.at (h7 r hr) (fun hm => by have := hX _ hm; omega), h8⟩
theorem prX.sf {S S1 : ks_S} {P y c F F' : Nat} {A : Nat → Nat → Nat} {gi : Nat → Nat} {L : List Nat} (h : prX S P y c A gi) (hu : sfK L S S1 F F') (hL : ∀ x ∈ L, x < P ∨ P + 7 < x) : prX S1 P y c A gi := by
  obtain ⟨h1, h2, h3, h4⟩ := h
  exact ⟨hu.at h1 (fun hm => by have := hL _ hm; omega), fun r hr => hu.at (h2 r hr) (fun hm => by have := hL _ hm; omega), hu.at h3 (fun hm => by have := hL _ hm; omega), h4⟩
theorem pdK.sf {S S1 : ks_S} {P y N F F' : Nat} {M : List Nat} {L : List Nat} (h : pdK S P y N M) (hN : N ≠ 520) (hu : sfK L S S1 F F') (hL : ∀ x ∈ L, x ≠ y ∧ (x < P ∨ P + 7 < x)) : pdK S1 P y N M := by
  obtain ⟨g, A, gi, ⟨h1, h2⟩, h3, h4, h5, h6, h7⟩ := h
  exact ⟨g, A, gi, ⟨hu.at h1 (fun hm => (hL _ hm).1 rfl) (fun g h => hN (kB_lq h)), h2⟩, h3, h4, h5, h6.sf hu (fun x hx => (hL x hx).2), h7⟩
theorem rkK.sf {S S1 : ks_S} {b : Bk} {F F' : Nat} {L : List Nat} (h : rkK S b) (hu : sfK L S S1 F F') (hL : ∀ x ∈ L, x < bkN b ∨ bkN b + 11 < x) : rkK S1 b := by
  obtain ⟨h1, h2, ⟨gh, h3, h4, h5⟩, h6, h7⟩ := h
  exact ⟨hu.at h1 (fun hm => by have := hL _ hm; omega), h2.sf (by decide) hu (fun x hx => by have := hL x hx; omega), ⟨gh, hu.at h3 (fun hm => by have := hL _ hm; omega), h4, h5⟩, h6.sf hu (fun hm => by have := hL _ hm; omega), h7⟩
theorem rbS.sf {S S1 : ks_S} {n F F' : Nat} {B : Nat → Bk} {L : List Nat} (h : rbS S n B) (hu : sfK L S S1 F F') (hL : ∀ x ∈ L, x < 565 ∧ x ≠ 341) : rbS S1 n B := by
  obtain ⟨⟨bf, h1, h2⟩, h3, h4⟩ := h
  exact ⟨⟨bf, hu.at h1 (fun hm => (hL _ hm).2 rfl), h2⟩, fun i hi => (h3 i hi).sf hu (fun x hx => by have := hL x hx; have := (h3 i hi).2.2.2.2.1; omega), h4⟩
theorem ctX.sf {S S1 : ks_S} {V V1 : Nat → Value} {c : List Nat} {F F' : Nat} {L : List Nat} (h : ctX S V c) (hu : sfK L S S1 F F') (hL : 371 ∉ L ∧ 372 ∉ L) (hv : V1 87 = V 87 ∧ V1 88 = V 88 ∧ V1 89 = V 89) : ctX S1 V1 c := by
  obtain ⟨a, b, ga, gb, h1, h2, h3, h4, h5, h6, h7, h8, h9⟩ := h
  have na : a ∉ L := by rcases h1 with h | h <;> rw [h.1]; exact hL.1; exact hL.2
  have nb : b ∉ L := by rcases h1 with h | h <;> rw [h.2]; exact hL.2; exact hL.1
  exact ⟨a, b, ga, gb, h1, hv.1.trans h2, hv.2.1.trans h3, hu.at h4 na, h5, hu.at h6 nb, h7, hv.2.2.trans h8, h9⟩
theorem buX.sf {S S1 : ks_S} {V V1 : Nat → Value} {r N f F F' : Nat} {m : List Nat} {L : List Nat} (h : buX S V r N f m) (hN : N ≠ 520) (hu : sfK L S S1 F F') (hL : r ∉ L) (hv : V1 f = V f) : buX S1 V1 r N f m := by
  obtain ⟨h1, g, h2, h3⟩ := h
  exact ⟨hv.trans h1, g, hu.at h2 hL (fun g h => hN (kB_lq h)), h3⟩
/-- the rows of the curve; Gp: the base point -/
def ccS (S : ks_S) (Gp : Pt) : Prop := (∃ R, cvR S R ∧ ptR R 308 = Gp) ∧ rgF S 555 nN muN ∧ fX S 306 7 ∧ exW S
theorem ccS.sf {S S1 : ks_S} {Gp : Pt} {F F' : Nat} {L : List Nat} (h : ccS S Gp) (hu : sfK L S S1 F F') (hL : ∀ x ∈ L, (x < 306 ∨ 335 < x) ∧ (x < 547 ∨ 562 < x)) : ccS S1 Gp := by
  obtain ⟨⟨R, h1, h2⟩, h3, h4, h5⟩ := h
  exact ⟨⟨R, h1.sf hu (fun x hx => by have := hL x hx; omega), h2⟩, h3.sf hu (fun x hx => by have := hL x hx; omega), h4.sf hu (fun hm => by have := hL _ hm; omega), h5.sf hu (fun x hx => by have := hL x hx; omega)⟩
theorem ccS.up {S S1 : ks_S} {Gp : Pt} {L : List Nat} (h : ccS S Gp) (hu : ks_up S S1 L) (hL : ∀ x ∈ L, (x < 306 ∨ 335 < x) ∧ (x < 547 ∨ 562 < x)) : ccS S1 Gp := h.sf (sfK.of (F := 0) hu) hL
