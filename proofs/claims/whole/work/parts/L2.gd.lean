/-! THE REFERENCE: the machine's rows are no elements -/
theorem gdS.non {S : ks_S} {V : Nat → Value} {Gp : Pt} {P y N : Nat} {G9 : Nat → Nat} {L t b k p m u e inp : Nat} (hO : S.2.2 290 = some (rfE V)) (h : gdS S V Gp P y N G9 L t b k p m u e inp) : ∀ x ∈ LGd, ∃ e, S.2.2 x = some e ∧ ∀ g, e ≠ kB 520 g := fun x hx => by
  obtain ⟨-, -, ⟨⟨⟨g1, k1, a1⟩, ⟨F, a2⟩, ⟨f, a3⟩, a4, a5, ⟨f9, a6⟩⟩, g5, k5, h305⟩, ⟨g6, k6, h336⟩, ⟨X, b1, gb, b2, -⟩, ⟨c, q⟩, ⟨⟨R, cv, -⟩, rg, -, ex⟩⟩ := h
  obtain ⟨ca, cb, ga, gb9, hab, -, -, e1, -, e2, -, -, -⟩ := q
  have c371 : ∃ e, S.2.2 371 = some e ∧ ∀ g, e ≠ kB 520 g := by
    rcases hab with ⟨rfl, rfl⟩ | ⟨rfl, rfl⟩
    · exact ⟨_, e1, fun g h => absurd (kB_lq h) (by decide)⟩
    · exact ⟨_, e2, fun g h => absurd (kB_lq h) (by decide)⟩
  have c372 : ∃ e, S.2.2 372 = some e ∧ ∀ g, e ≠ kB 520 g := by
    rcases hab with ⟨rfl, rfl⟩ | ⟨rfl, rfl⟩
    · exact ⟨_, e2, fun g h => absurd (kB_lq h) (by decide)⟩
    · exact ⟨_, e1, fun g h => absurd (kB_lq h) (by decide)⟩
  simp only [List.mem_cons, List.not_mem_nil, or_false] at hx
  rcases hx with rfl | rfl | rfl | rfl | rfl | rfl | rfl | rfl | rfl | rfl | rfl | rfl | rfl | rfl | rfl | rfl | rfl | rfl | rfl | rfl | rfl | rfl | rfl | rfl | rfl | rfl | rfl | rfl | rfl | rfl | rfl | rfl | rfl | rfl | rfl | rfl | rfl | rfl
  · exact ⟨_, hO, fun g h => by cases h⟩
  · exact ⟨_, a1, fun g h => absurd (kB_lq h) (by decide)⟩
  · exact ⟨_, a2, fun g h => by cases h⟩
  · exact ⟨_, a3, fun g h => by cases h⟩
  · exact ⟨_, a6, fun g h => by cases h⟩
  · exact ⟨_, h305, fun g h => absurd (kB_lq h) (by decide)⟩
  · exact ⟨_, h336, fun g h => absurd (kB_lq h) (by decide)⟩
  · exact c371
  · exact c372
  · exact ⟨_, b2, fun g h => absurd (kB_lq h) (by decide)⟩
  · obtain ⟨g, e, -⟩ := cv.1.1.2.2.1; exact ⟨_, e, fun g h => by cases h⟩
  · obtain ⟨W, g, e, -⟩ := cv.1.2.2.2.2.1; exact ⟨_, e, fun g h => by cases h⟩
  · obtain ⟨W, g, e, -⟩ := cv.1.2.2.2.2.2; exact ⟨_, e, fun g h => by cases h⟩
  · obtain ⟨g, e, -⟩ := rg.1.2.2.1; exact ⟨_, e, fun g h => by cases h⟩
  · obtain ⟨W, g, e, -⟩ := rg.2.2.2.2.1; exact ⟨_, e, fun g h => by cases h⟩
  · obtain ⟨W, g, e, -⟩ := rg.2.2.2.2.2; exact ⟨_, e, fun g h => by cases h⟩
  · obtain ⟨g, e, -⟩ := (cv.2.1 312 (by decide)).1; exact ⟨_, e, fun g h => by cases h⟩
  · obtain ⟨g, e, -⟩ := (cv.2.1 313 (by decide)).1; exact ⟨_, e, fun g h => by cases h⟩
  · obtain ⟨g, e, -⟩ := (cv.2.1 314 (by decide)).1; exact ⟨_, e, fun g h => by cases h⟩
  · obtain ⟨g, e, -⟩ := (cv.2.1 316 (by decide)).1; exact ⟨_, e, fun g h => by cases h⟩
  · obtain ⟨g, e, -⟩ := (cv.2.1 317 (by decide)).1; exact ⟨_, e, fun g h => by cases h⟩
  · obtain ⟨g, e, -⟩ := (cv.2.1 318 (by decide)).1; exact ⟨_, e, fun g h => by cases h⟩
  · obtain ⟨g, e, -⟩ := (cv.2.1 320 (by decide)).1; exact ⟨_, e, fun g h => by cases h⟩
  · obtain ⟨g, e, -⟩ := (cv.2.1 321 (by decide)).1; exact ⟨_, e, fun g h => by cases h⟩
  · obtain ⟨g, e, -⟩ := (cv.2.1 322 (by decide)).1; exact ⟨_, e, fun g h => by cases h⟩
  · obtain ⟨g, e, -⟩ := (cv.2.1 323 (by decide)).1; exact ⟨_, e, fun g h => by cases h⟩
  · obtain ⟨g, e, -⟩ := (cv.2.1 324 (by decide)).1; exact ⟨_, e, fun g h => by cases h⟩
  · obtain ⟨g, e, -⟩ := (cv.2.1 325 (by decide)).1; exact ⟨_, e, fun g h => by cases h⟩
  · obtain ⟨g, e, -⟩ := (cv.2.1 326 (by decide)).1; exact ⟨_, e, fun g h => by cases h⟩
  · obtain ⟨g, e, -⟩ := (cv.2.1 327 (by decide)).1; exact ⟨_, e, fun g h => by cases h⟩
  · obtain ⟨g, e, -⟩ := (cv.2.1 328 (by decide)).1; exact ⟨_, e, fun g h => by cases h⟩
  · obtain ⟨W, g, e, -⟩ := ex 329 (by decide) (by decide); exact ⟨_, e, fun g h => by cases h⟩
  · obtain ⟨W, g, e, -⟩ := ex 330 (by decide) (by decide); exact ⟨_, e, fun g h => by cases h⟩
  · obtain ⟨W, g, e, -⟩ := ex 331 (by decide) (by decide); exact ⟨_, e, fun g h => by cases h⟩
  · obtain ⟨W, g, e, -⟩ := ex 332 (by decide) (by decide); exact ⟨_, e, fun g h => by cases h⟩
  · obtain ⟨W, g, e, -⟩ := ex 333 (by decide) (by decide); exact ⟨_, e, fun g h => by cases h⟩
  · obtain ⟨W, g, e, -⟩ := ex 334 (by decide) (by decide); exact ⟨_, e, fun g h => by cases h⟩
  · obtain ⟨W, g, e, -⟩ := ex 335 (by decide) (by decide); exact ⟨_, e, fun g h => by cases h⟩
/-- 520-byte rows lie behind the reference's fixed rows -/
theorem tbS.hi {S : ks_S} {T : Nat → Nat → Option Nat} (h : tbS S T) (hc : ∀ x, x < 563 → ∀ g, S.2.2 x ≠ some (kB 520 g)) {a i r : Nat} (hr : T a i = some r) : 562 < r := by
  obtain ⟨-, g, -, e⟩ := h.2.2.1 a i r hr
  exact Nat.lt_of_not_le (fun hle => hc r (by omega) g e)
/-- a step of the stack leaves what looking at signatures needs -/
theorem gdS.sf {S S1 : ks_S} {V V1 : Nat → Value} {Gp : Pt} {P y N : Nat} {G9 : Nat → Nat} {L t b k p m u e inp F F' : Nat} {X : List Nat} (h : gdS S V Gp P y N G9 L t b k p m u e inp) (hN : N ≠ 520) (hu : sfK X S S1 F F') (hX : ∀ x ∈ X, (x = 290 ∨ (340 < x ∧ x < 371) ∨ (373 < x ∧ x < 547)) ∧ x ≠ y ∧ (x < P ∨ P + 6 < x)) (hv : ∀ j, j = 76 ∨ j = 77 ∨ j = 78 ∨ j = 87 ∨ j = 88 ∨ j = 89 ∨ j = 91 → V1 j = V j) : gdS S1 V1 Gp P y N G9 L t b k p m u e inp := by
  obtain ⟨h1, ⟨v1, v2, v3⟩, ⟨h2, g5, k5, h3⟩, ⟨g6, k6, h4⟩, ⟨Y, h5⟩, ⟨c, h6⟩, h7⟩ := h
  have nn : ∀ a, a ≠ 290 → (a ≤ 340 ∨ (371 ≤ a ∧ a ≤ 373)) → a ∉ X := fun a ha hb hm => by have := (hX a hm).1; omega
  exact ⟨h1.sf hN hu (fun x hx => (hX x hx).2), ⟨(hv _ (by simp)).trans v1, (hv _ (by simp)).trans v2, (hv _ (by simp)).trans v3⟩, ⟨h2.sf hu (fun x hx => by have := (hX x hx).1; omega), g5, k5, hu.at h3 (nn _ (by decide) (by decide))⟩, ⟨g6, k6, hu.at h4 (nn _ (by decide) (by decide))⟩, ⟨Y, h5.sf (by decide) hu (nn _ (by decide) (by decide)) (hv _ (by simp))⟩, ⟨c, h6.sf hu ⟨nn _ (by decide) (by decide), nn _ (by decide) (by decide)⟩ ⟨hv _ (by simp), hv _ (by simp), hv _ (by simp)⟩⟩, h7.sf hu (fun x hx => by have := (hX x hx).1; omega)⟩
