/-! THE CLASS AND THE REFERENCE keep apart -/
theorem frS.c {S S1 : ks_S} (f : frS rfN S S1) : frC S S1 := fun a e h1 h2 h3 _ _ => f a e h1 (fun hm => by have := mem_rfN.mp hm; omega) (clE_52 h3)
theorem frS.cn {S S1 : ks_S} {n : Nat} {B : Nat → Bk} (f : frS (nmL n B ++ rfN) S S1) (hR : rbS S n B) : frC S S1 := fun a e h1 h2 h3 _ _ => f a e h1 (fun hm => by
  rcases List.mem_append.mp hm with hm | hm
  · obtain ⟨i, hi, rfl⟩ := List.mem_map.mp hm
    have h4 := (hR.2.1 i (List.mem_range.mp hi)).1
    rw [h4] at h1
    cases h1
    exact absurd h3 (by show ¬ (decide ((15 : Nat) < 15) = true); decide)
  · have := mem_rfN.mp hm; omega) (clE_52 h3)
theorem rsQ.cl {S S1 : ks_S} {V : Nat → Value} {F : Nat} {xs ys : List (List Nat)} {vs : Vs} {L : List Nat} (h : rsQ S V F xs ys vs) (fr : ∀ a e, S.2.2 a = some e → a ∉ L → S1.2.2 a = some e) (hL : ∀ x ∈ L, x < 290 ∨ 565 ≤ x) (h5 : ∀ x ∈ L, ∀ g, S.2.2 x ≠ some (kB 520 g)) (hn : nwS S1) (hr : S1.1 + F + 2 < ks_B) : rsQ S1 V F xs ys vs := by
  obtain ⟨Tb, sz, oz, vz, ⟨⟨t1, t2, t3, t4, t5⟩, ⟨s1, s2, s3⟩, v1, l1, e1, e2, e3, e4⟩, hF, g7, k7, h7⟩ := h
  have nl : ∀ a, 290 ≤ a → a < 565 → a ∉ L := fun a h1 h2 hm => by have := hL a hm; omega
  have row : ∀ r g, S.2.2 r = some (kB 520 g) → S1.2.2 r = some (kB 520 g) := fun r g hg => fr r _ hg (fun hm => h5 r hm g hg)
  have el : ∀ (tb : Nat → Option Nat) (z : Nat → Nat) (x : List (List Nat)), elR S tb z x → elR S1 tb z x := fun tb z x he i hi => by
    obtain ⟨r, g, q1, q2, q3⟩ := he i hi
    exact ⟨r, g, q1, row r g q2, q3⟩
  exact ⟨Tb, sz, oz, vz, ⟨⟨fun a ha => fr _ _ (t1 a ha) (nl _ (by omega) (by omega)), t2, fun a i r hr' => ⟨(t3 a i r hr').1, by
    obtain ⟨g, k, hg⟩ := (t3 a i r hr').2
    exact ⟨g, k, row r g hg⟩⟩, hn, by rw [hF]; exact hr⟩, ⟨fr _ _ s1 (nl _ (by decide) (by decide)), fr _ _ s2 (nl _ (by decide) (by decide)), fr _ _ s3 (nl _ (by decide) (by decide))⟩, v1, l1, el _ _ _ e1, el _ _ _ e2, el _ _ _ e3, e4⟩, hF, g7, k7, fr _ _ h7 (nl _ (by decide) (by decide))⟩
theorem rqS.cl {S S1 : ks_S} {V : Nat → Value} {F n best : Nat} {B : Nat → Bk} {C R : List Nat} {t : Nat} {D : Nat → dTx} {T : List Nat} {q : Nat} {dt : Int64} {rs : Nat} {L : List Nat} (h : rqS S V F n best B C R t D T q dt rs) (fr : ∀ a e, S.2.2 a = some e → a ∉ L → S1.2.2 a = some e) (hL : ∀ x ∈ L, x < 290 ∨ 565 ≤ x) (hb : ∀ x ∈ L, ∀ j, j < n → x < bkN (B j) ∨ bkN (B j) + 11 < x) (h5 : ∀ x ∈ L, ∀ g, S.2.2 x ≠ some (kB 520 g)) (hn : nwS S1) (hr : S1.1 + F + 2 < ks_B) (hlo : ∀ a, a < 290 → ∃ e, S1.2.2 a = some e ∧ ∀ g, e ≠ kB 520 g) (hz : S.1 ≤ S1.1) : rqS S1 V F n best B C R t D T q dt rs := by
  have nl : ∀ a, 290 ≤ a → a < 565 → a ∉ L := fun a h1 h2 hm => by have := hL a hm; omega
  have fs : frS L S S1 := fun a e h1 h2 _ => fr a e h1 h2
  have fk := fs.k
  obtain ⟨hW, ⟨bf, h2, h3⟩, ⟨⟨bf2, h4, h4b⟩, h4c, h4d⟩, h5', ⟨⟨f8, h8, h9⟩, hA⟩, ⟨⟨fC, hC, hE⟩, hG⟩, ⟨hD, hD2⟩, ⟨tv, tg, te, tk⟩, hq, h55, hI⟩ := h
  have hW1 : rqW S1 V F gpG := by
    obtain ⟨xs, ys, vs, hrs⟩ := hW.2.1
    refine hW.upd fs (fr _ _ hW.1 (nl _ (by decide) (by decide))) ⟨xs, ys, vs, hrs.cl fr hL h5 hn hr⟩ (fun x hx h6 _ => ?_) (Or.inr fun x hx => by have := hL x hx; omega) (Or.inr fun x hx => by have := hL x hx; omega) (Or.inr fun x hx => by have := hL x hx; omega) (Or.inr ⟨nl _ (by decide) (by decide), rfl⟩) (Or.inr ⟨⟨nl _ (by decide) (by decide), nl _ (by decide) (by decide)⟩, rfl, rfl, rfl⟩) ⟨nl _ (by decide) (by decide), Or.inr (nl _ (by decide) (by decide))⟩ (nl _ (by decide) (by decide)) (Or.inr fun x hx => by have := hL x hx; omega) (Or.inr fun x hx => by have := hL x hx; omega) (fun p hp hm => ?_)
    · exact hlo x (by have := hL x hx; omega)
    · exfalso
      have h6 : ∀ p ∈ shL, 290 ≤ p.1 ∧ p.1 < 565 := by decide
      exact nl p.1 (h6 p hp).1 (h6 p hp).2 hm
  refine ⟨hW1, ⟨bf, fr _ _ h2 (nl _ (by decide) (by decide)), h3⟩, ⟨⟨bf2, fr _ _ h4 (nl _ (by decide) (by decide)), h4b⟩, fun i hi => ?_, h4d⟩, h5', ⟨⟨f8, fr _ _ h8 (nl _ (by decide) (by decide)), h9⟩, hA⟩, ⟨⟨fC, fr _ _ hC (nl _ (by decide) (by decide)), hE⟩, hG⟩, ⟨hD.fr (fun a e h1 h6 h7 => fr a e h1 (nl a (by omega) (by omega))), hD2⟩, ⟨tv, tg, fr _ _ te (nl _ (by decide) (by decide)), tk⟩, hq, h55, Nat.le_trans hI hz⟩
  exact ((h4c i hi).sf fk (fun x hx => hb x hx i hi) : rkK (S.1, S.2.1, S1.2.2) (B i))
/-- the class wrote below 290 alone -/
theorem rqS.lo {S S1 : ks_S} {V : Nat → Value} {F n best : Nat} {B : Nat → Bk} {C R : List Nat} {t : Nat} {D : Nat → dTx} {T : List Nat} {q : Nat} {dt : Int64} {rs : Nat} {L : List Nat} (h : rqS S V F n best B C R t D T q dt rs) (u : ks_up S S1 L) (hL : ∀ x ∈ L, x < 290) (hlo : ∀ a, a < 290 → ∃ e, S1.2.2 a = some e ∧ clE e = true) : rqS S1 V F n best B C R t D T q dt rs := by
  have hnw := h.1.nw
  refine h.cl (fun a e h1 h2 => u.at h1 h2) (fun x hx => Or.inl (hL x hx)) (fun x hx j hj => Or.inl ?_) (fun x hx g hg => ?_) (fun a h1 h2 => ?_) (by rw [u.1]; exact hnw.2) (fun a ha => ?_) (by rw [u.1]; exact Nat.le_refl _)
  · have := (h.2.2.1.2.1 j hj).2.2.2.2.1
    have := hL x hx
    omega
  · exact h.1.2.2.1.no x (by have := hL x hx; omega) g hg
  · rw [u.1] at h1
    have h6 := h.2.2.2.2.2.2.2.2.2.2
    have h3 : a ∉ L := fun hm => by have := hL a hm; omega
    rw [u.2.2 a h3]
    exact hnw.1 a h1 h2
  · obtain ⟨e, e1, e2⟩ := hlo a ha
    exact ⟨e, e1, clE_52 e2⟩
/-- an object more that nobody names -/
theorem rqS.one {S S1 : ks_S} {V : Nat → Value} {F n best : Nat} {B : Nat → Bk} {C R : List Nat} {t : Nat} {D : Nat → dTx} {T : List Nat} {q : Nat} {dt : Int64} {rs : Nat} {L : List Nat} (h : rqS S V F n best B C R t D T q dt rs) (hr : S.1 + F + 3 < ks_B) (hlo : ∀ a, a < 290 → ∃ e, S.2.2 a = some e ∧ clE e = true) : rqS (ks_one S) V F n best B C R t D T q dt rs := by
  have hnw := h.1.nw
  refine h.cl (S1 := ks_one S) (L := []) (fun a e h1 h2 => h1) (fun x hx => by cases hx) (fun x hx => by cases hx) (fun x hx => by cases hx) (fun a h1 h2 => ?_) (by show S.1 + 1 + F + 2 < ks_B; omega) (fun a ha => ?_) (Nat.le_succ _)
  · exact hnw.1 a (Nat.le_of_succ_le h1) h2
  · obtain ⟨e, e1, e2⟩ := hlo a ha
    exact ⟨e, e1, clE_52 e2⟩
theorem cqS.one {S : ks_S} {n best : Nat} {B : Nat → Bk} {dc dp : Nat} {dt : Int64} {rs : Nat} {Ds : Nat → dTx} {T : List Nat} (h : cqS S n best B dc dp dt rs Ds T) (hr : S.1 + 1 < ks_B) : cqS (ks_one S) n best B dc dp dt rs Ds T := h.fr (S1 := ks_one S) (fun a e h1 _ _ _ _ => h1) ⟨Nat.le_succ _, hr⟩
/-- a state without cells that aren't made -/
def ks_cl (S : ks_S) : ks_S := (S.1, S.2.1, fun a => if S.1 ≤ a ∧ a < ks_B then none else S.2.2 a)
theorem ks_cl_nw (S : ks_S) : nwS (ks_cl S) := fun a h1 h2 => if_pos ⟨h1, h2⟩
theorem ks_cl_at (S : ks_S) {a : Nat} (h : a < S.1 ∨ ks_B ≤ a) : (ks_cl S).2.2 a = S.2.2 a := if_neg (by omega)
theorem kl_cl {l : Launch} {G : ks_G} {hh : KH} {M : ks_M} {d pc : Nat} {lv : List (Nat × Value)} {st : List Value} {S : ks_S} {P : Option Value → ks_S → Prop} (k : ks_L l G hh M d pc lv st (ks_cl S) P) : ks_L l G hh M d pc lv st S P := by
  obtain ⟨v, S', ⟨hm, hV⟩, hP⟩ := k
  refine ⟨v, S', ⟨hm, fun p e R s m args below meth c H locs cells slots ls CC hH hS0 hl h1 h2 => hV p e R s m args below meth c H locs cells slots ls CC ⟨hH.1, hH.2.1, fun a e ha => ?_, hH.2.2.2⟩ hS0 hl h1 h2⟩, hP⟩
  refine hH.2.2.1 a e ?_
  change (if S.1 ≤ a ∧ a < ks_B then none else S.2.2 a) = some e at ha
  split at ha
  · cases ha
  · exact ha
/-- the row of the law's own answers is written -/
theorem cqS.out {S : ks_S} {n best : Nat} {B : Nat → Bk} {dc dp : Nat} {dt : Int64} {rs : Nat} {Ds : Nat → dTx} {T : List Nat} {o : Nat} {f g : Nat → Int64} (h : cqS S n best B dc dp dt rs Ds T) (ho : S.2.2 o = some (kJ 1 f)) (h5 : 565 ≤ o) : cqS (ks_set S o (kJ 1 g)) n best B dc dp dt rs Ds T := by
  refine h.fr (S1 := ks_set S o (kJ 1 g)) (fun a e h1 _ _ h4 _ => ?_) ⟨Nat.le_refl _, h.2.2.2.2.2.2.1.2.1⟩
  by_cases c : a = o
  · subst c
    rw [ho] at h1
    cases h1
    rcases h4 with h4 | h4
    · omega
    · exact absurd h4 (by show ¬ ((!((2 : Nat) == 2)) = true); decide)
  · exact (ks_set_ne _ _ c).trans h1
theorem rkK.no {S : ks_S} {b : Bk} (h : rkK S b) {o : Nat} {f : Nat → Int64} (ho : S.2.2 o = some (kJ 1 f)) : o < bkN b ∨ bkN b + 11 < o := by
  obtain ⟨h1, hp, ⟨gh, h2, -⟩, ⟨gw, h3, -⟩, -⟩ := h
  obtain ⟨gy, A, gi, ⟨hy, -⟩, -, -, -, ⟨p1, p2, p3, -⟩, -⟩ := hp
  by_cases c : o < bkN b ∨ bkN b + 11 < o
  · exact c
  · exfalso
    have hk : o = bkN b ∨ o = bkN b + 1 ∨ o = bkN b + 2 ∨ o = bkN b + 3 ∨ (bkN b + 4 ≤ o ∧ o < bkN b + 10) ∨ o = bkN b + 10 ∨ o = bkN b + 11 := by omega
    rcases hk with e | e | e | e | e | e | e
    · rw [e, h1] at ho; cases ho
    · rw [e, hy] at ho; cases ho
    · rw [e, h2] at ho; cases ho
    · rw [e, p1] at ho; cases ho
    · have q := p2 (o - bkN b - 4) (by omega)
      rw [show bkN b + 3 + 1 + (o - bkN b - 4) = o by omega, ho] at q
      cases q
    · rw [e, show bkN b + 10 = bkN b + 3 + 7 by omega, p3] at ho; cases ho
    · rw [e, h3] at ho; cases ho
theorem rqS.out {S : ks_S} {V : Nat → Value} {F n best : Nat} {B : Nat → Bk} {C R : List Nat} {t : Nat} {D : Nat → dTx} {T : List Nat} {q : Nat} {dt : Int64} {rs : Nat} {o : Nat} {f g : Nat → Int64} (h : rqS S V F n best B C R t D T q dt rs) (ho : S.2.2 o = some (kJ 1 f)) (h5 : 565 ≤ o) (h6 : o < S.1) : rqS (ks_set S o (kJ 1 g)) V F n best B C R t D T q dt rs := by
  have hnw := h.1.nw
  refine h.cl (S1 := ks_set S o (kJ 1 g)) (L := [o]) (fun a e h1 h2 => (ks_set_ne _ _ (fun h => h2 (by rw [h]; exact List.mem_singleton.mpr rfl))).trans h1) (fun x hx => by rw [List.mem_singleton] at hx; rw [hx]; exact Or.inr h5) (fun x hx j hj => by rw [List.mem_singleton] at hx; rw [hx]; exact (h.2.2.1.2.1 j hj).no ho) (fun x hx g9 hg => ?_) (fun a h1 h2 => ?_) hnw.2 (fun a ha => ?_) (Nat.le_refl _)
  · rw [List.mem_singleton] at hx
    rw [hx, ho] at hg
    cases hg
  · exact (ks_set_ne _ _ (show a ≠ o from fun e => by change S.1 ≤ a at h1; omega)).trans (hnw.1 a h1 h2)
  · obtain ⟨e, e1, e2⟩ := h.1.2.2.1 a (by omega)
    exact ⟨e, (ks_set_ne _ _ (by omega)).trans e1, e2⟩
