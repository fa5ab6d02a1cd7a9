/-! THE REFERENCE: what holds again behind a method -/
theorem rqS.pb {S S1 : ks_S} {V V1 : Nat → Value} {F n best : Nat} {B : Nat → Bk} {C R : List Nat} {t : Nat} {D : Nat → dTx} {T : List Nat} {q : Nat} {dt : Int64} {rs : Nat} {L Fs : List Nat} {t1 : Nat} {D1 : Nat → dTx} {T1 : List Nat} {q1 : Nat} {dt1 : Int64} {rs1 : Nat} (h : rqS S V F n best B C R t D T q dt rs) (k : pbK L Fs S S1 V V1) (hW : rqW S1 V1 F gpG) (hL : ∀ x ∈ L, x < 565 ∧ x ≠ 341 ∧ x ≠ 342 ∧ x ≠ 343) (hF : 47 ∉ Fs ∧ 48 ∉ Fs ∧ 50 ∉ Fs ∧ 52 ∉ Fs) (hD : rdS S1 t1 D1 ∧ V1 94 = .int (nI t1)) (hT : buX S1 V1 531 1600 110 T1) (hq : V1 92 = .int (nI q1) ∧ q1 < n ∧ V1 93 = .long dt1) (h55 : V1 55 = .int (nI rs1)) : rqS S1 V1 F n best B C R t1 D1 T1 q1 dt1 rs1 := by
  obtain ⟨h1, ⟨bf, h2, h3⟩, h4, ⟨h5, h6, h7⟩, ⟨⟨f8, h8, h9⟩, hA, hB⟩, ⟨⟨fC, hC, hE⟩, hG, hH⟩, -, -, -, -, hI⟩ := h
  have hL' : ∀ x ∈ 290 :: L, x < 565 ∧ x ≠ 341 ∧ x ≠ 342 ∧ x ≠ 343 := fun x hx => by
    rcases List.mem_cons.mp hx with rfl | hx
    · decide
    · exact hL x hx
  have n1 : ∀ a, a = 341 ∨ a = 342 ∨ a = 343 → a ∉ 290 :: L := fun a ha hm => by have := hL' a hm; omega
  exact ⟨hW, ⟨bf, k.1.at h2 (n1 _ (by decide)), h3⟩, h4.up k.1 (fun x hx => ⟨(hL' x hx).1, (hL' x hx).2.1⟩), ⟨(k.2.2 _ hF.1).trans h5, (k.2.2 _ hF.2.1).trans h6, h7⟩, ⟨⟨f8, k.1.at h8 (n1 _ (by decide)), h9⟩, (k.2.2 _ hF.2.2.1).trans hA, hB⟩, ⟨⟨fC, k.1.at hC (n1 _ (by decide)), hE⟩, (k.2.2 _ hF.2.2.2).trans hG, hH⟩, hD, hT, hq, h55, by rw [k.1.1]; exact hI⟩
/-- a method that writes the tape and the draft alone -/
theorem rqS.ob {S S1 : ks_S} {V V1 : Nat → Value} {F n best : Nat} {B : Nat → Bk} {C R : List Nat} {t : Nat} {D : Nat → dTx} {T : List Nat} {q : Nat} {dt : Int64} {rs : Nat} {L Fs : List Nat} {t1 : Nat} {D1 : Nat → dTx} {T1 : List Nat} {q1 : Nat} {dt1 : Int64} {rs1 : Nat} (h : rqS S V F n best B C R t D T q dt rs) (k : pbK L Fs S S1 V V1) (hL : ∀ x ∈ L, x = 531 ∨ x ∈ LDw) (hF : 47 ∉ Fs ∧ 48 ∉ Fs ∧ 50 ∉ Fs ∧ 52 ∉ Fs ∧ 67 ∉ Fs ∧ 70 ∉ Fs ∧ 73 ∉ Fs ∧ 87 ∉ Fs ∧ 88 ∉ Fs ∧ 89 ∉ Fs ∧ 91 ∉ Fs) (hD : rdS S1 t1 D1 ∧ V1 94 = .int (nI t1)) (hT : buX S1 V1 531 1600 110 T1) (hq : V1 92 = .int (nI q1) ∧ q1 < n ∧ V1 93 = .long dt1) (h55 : V1 55 = .int (nI rs1)) : rqS S1 V1 F n best B C R t1 D1 T1 q1 dt1 rs1 := by
  refine h.pb k (h.1.ob k ⟨hF.2.2.2.2.1, hF.2.2.2.2.2.1, hF.2.2.2.2.2.2.1, hF.2.2.2.2.2.2.2.1, hF.2.2.2.2.2.2.2.2.1, hF.2.2.2.2.2.2.2.2.2.1, hF.2.2.2.2.2.2.2.2.2.2⟩ (fun x hx => ?_) (fun x hx => ?_)) (fun x hx => ?_) ⟨hF.1, hF.2.1, hF.2.2.1, hF.2.2.2.1⟩ hD hT hq h55
  · rcases hL x hx with rfl | hm
    · omega
    · have := mem_LDw.mp hm; omega
  · rcases hL x hx with rfl | hm
    · obtain ⟨_, g, e, _⟩ := hT
      exact ⟨_, e, no52_ne rfl⟩
    · exact rd_low hD.1 x hm
  · rcases hL x hx with rfl | hm
    · omega
    · have := mem_LDw.mp hm; omega
/-- the draft and the tape over a frame that leaves them -/
theorem rqS.dr {S S1 : ks_S} {V V1 : Nat → Value} {F n best : Nat} {B : Nat → Bk} {C R : List Nat} {t : Nat} {D : Nat → dTx} {T : List Nat} {q : Nat} {dt : Int64} {rs : Nat} {L Fs : List Nat} (h : rqS S V F n best B C R t D T q dt rs) (k : pbK L Fs S S1 V V1) (hL : ∀ x ∈ L, x < 374 ∨ 528 < x) (hF : 94 ∉ Fs) : rdS S1 t D ∧ V1 94 = .int (nI t) := by
  obtain ⟨-, -, -, -, -, -, ⟨h1, h2⟩, -⟩ := h
  exact ⟨h1.up k.1 (fun x hx => by
    rcases List.mem_cons.mp hx with rfl | hx
    · omega
    · exact hL x hx), (k.2.2 _ hF).trans h2⟩
theorem rqS.tp {S S1 : ks_S} {V V1 : Nat → Value} {F n best : Nat} {B : Nat → Bk} {C R : List Nat} {t : Nat} {D : Nat → dTx} {T : List Nat} {q : Nat} {dt : Int64} {rs : Nat} {L Fs : List Nat} (h : rqS S V F n best B C R t D T q dt rs) (k : pbK L Fs S S1 V V1) (hL : 531 ∉ L) (hF : 110 ∉ Fs) : buX S1 V1 531 1600 110 T := by
  obtain ⟨-, -, -, -, -, -, -, h1, -⟩ := h
  exact k.bu h1 (by simp only [List.mem_cons, not_or]; exact ⟨by decide, hL⟩) hF
theorem rqS.pq {S S1 : ks_S} {V V1 : Nat → Value} {F n best : Nat} {B : Nat → Bk} {C R : List Nat} {t : Nat} {D : Nat → dTx} {T : List Nat} {q : Nat} {dt : Int64} {rs : Nat} {L Fs : List Nat} (h : rqS S V F n best B C R t D T q dt rs) (k : pbK L Fs S S1 V V1) (hF : 92 ∉ Fs ∧ 93 ∉ Fs) : V1 92 = .int (nI q) ∧ q < n ∧ V1 93 = .long dt := by
  obtain ⟨-, -, -, -, -, -, -, -, ⟨h1, h2, h3⟩, -⟩ := h
  exact ⟨(k.2.2 _ hF.1).trans h1, h2, (k.2.2 _ hF.2).trans h3⟩
theorem rqS.p5 {S S1 : ks_S} {V V1 : Nat → Value} {F n best : Nat} {B : Nat → Bk} {C R : List Nat} {t : Nat} {D : Nat → dTx} {T : List Nat} {q : Nat} {dt : Int64} {rs : Nat} {L Fs : List Nat} (h : rqS S V F n best B C R t D T q dt rs) (k : pbK L Fs S S1 V V1) (hF : 55 ∉ Fs) : V1 55 = .int (nI rs) := by
  obtain ⟨-, -, -, -, -, -, -, -, -, h1, -⟩ := h
  exact (k.2.2 _ hF).trans h1
/-- a method that is refused -/
theorem rqS.no {S S1 : ks_S} {V V1 : Nat → Value} {F n best : Nat} {B : Nat → Bk} {C R : List Nat} {t : Nat} {D : Nat → dTx} {T : List Nat} {q : Nat} {dt : Int64} {rs : Nat} {Fs : List Nat} (h : rqS S V F n best B C R t D T q dt rs) (k : pbK [] Fs S S1 V V1) (hF : ∀ x ∈ Fs, x = 111 ∨ x = 40 ∨ x = 41) : rqS S1 V1 F n best B C R t D T q dt rs := by
  have nf : ∀ x, x ≠ 111 → x ≠ 40 → x ≠ 41 → x ∉ Fs := fun x h1 h2 h3 hm => by have := hF x hm; omega
  exact h.ob k (fun x hx => by cases hx) ⟨nf _ (by decide) (by decide) (by decide), nf _ (by decide) (by decide) (by decide), nf _ (by decide) (by decide) (by decide), nf _ (by decide) (by decide) (by decide), nf _ (by decide) (by decide) (by decide), nf _ (by decide) (by decide) (by decide), nf _ (by decide) (by decide) (by decide), nf _ (by decide) (by decide) (by decide), nf _ (by decide) (by decide) (by decide), nf _ (by decide) (by decide) (by decide), nf _ (by decide) (by decide) (by decide)⟩ (h.dr k (fun x hx => by cases hx) (nf _ (by decide) (by decide) (by decide))) (h.tp k (fun hx => by cases hx) (nf _ (by decide) (by decide) (by decide))) (h.pq k ⟨nf _ (by decide) (by decide) (by decide), nf _ (by decide) (by decide) (by decide)⟩) (h.p5 k (nf _ (by decide) (by decide) (by decide)))
/-- seal -/
theorem rqS.sl {S S1 : ks_S} {V V1 : Nat → Value} {F n best : Nat} {B : Nat → Bk} {C R : List Nat} {t : Nat} {D : Nat → dTx} {T T1 : List Nat} {q : Nat} {dt : Int64} {rs : Nat} {L : List Nat} (h : rqS S V F n best B C R t D T q dt rs) (k : pbK L [107, 110, 111] S S1 V V1) (hL : ∀ x ∈ L, x = 531 ∨ x ∈ LAz) (hA : asR S1) (hT : buX S1 V1 531 1600 110 T1) : rqS S1 V1 F n best B C R t D T1 q dt rs := by
  have hz : ∀ x ∈ LAz, (x < 374 ∨ 528 < x) ∧ x < 565 ∧ x ≠ 341 ∧ x ≠ 342 ∧ x ≠ 343 := by decide
  refine h.pb k (h.1.seal k hL (by decide) hA (by obtain ⟨_, g, e, _⟩ := hT; exact ⟨_, e, no52_ne rfl⟩)) (fun x hx => ?_) (by decide) (h.dr k (fun x hx => ?_) (by decide)) hT (h.pq k (by decide)) (h.p5 k (by decide))
  · rcases hL x hx with rfl | hm
    · decide
    · exact (hz x hm).2
  · rcases hL x hx with rfl | hm
    · decide
    · exact (hz x hm).1
theorem pbK.fa {S S1 : ks_S} {V V1 : Nat → Value} {L Fs : List Nat} (k : pbK L Fs S S1 V V1) (hL : ∀ x ∈ L, 290 ≤ x ∧ x < 565) : frS rfN S S1 := k.1.fr.mono (fun a ha => by
  rcases List.mem_cons.mp ha with rfl | ha
  · exact mem_rfN.mpr (by decide)
  · exact mem_rfN.mpr (hL a ha))
/-- key and digest -/
theorem rqS.kd {S S1 : ks_S} {V V1 : Nat → Value} {F n best : Nat} {B : Nat → Bk} {C R : List Nat} {t : Nat} {D : Nat → dTx} {T T1 : List Nat} {q : Nat} {dt : Int64} {rs : Nat} {L : List Nat} (h : rqS S V F n best B C R t D T q dt rs) (k : pbK L [110, 111] S S1 V V1) (hL : ∀ x ∈ L, x ∈ LKk ++ LKo) (cc : ccS S1 gpG) (mh : mhR S1) (mr : mrR S1) (h5 : ∃ g, kO g ∧ S1.2.2 305 = some (kB 32 g)) (h3 : ∃ g, kO g ∧ S1.2.2 533 = some (kB 65 g)) (hT : buX S1 V1 531 1600 110 T1) : rqS S1 V1 F n best B C R t D T1 q dt rs := by
  have z1 : ∀ x ∈ LKk ++ LKo, (x < 336 ∨ x = 531 ∨ x = 533 ∨ (551 < x ∧ x < 555)) ∧ (rqU x = true → x = 531) := by decide
  have hz : ∀ x ∈ 290 :: L, (x < 336 ∨ x = 531 ∨ x = 533 ∨ (551 < x ∧ x < 555)) ∧ (rqU x = true → x = 531) := fun x hx => by
    rcases List.mem_cons.mp hx with rfl | hx
    · decide
    · exact z1 x (hL x hx)
  have z3 : ∀ x, x ∈ 290 :: L → (x < 336 ∨ x = 531 ∨ x = 533 ∨ (551 < x ∧ x < 555)) := fun x hx => (hz x hx).1
  refine h.pb k (h.1.upd k.1.fr k.2.1 (h.1.rs k (fun x hx => by have := z3 x (List.mem_cons_of_mem _ hx); omega) (by decide)) (fun x hx _ hu => ?_) (Or.inl mh) (Or.inl mr) (Or.inl cc) (Or.inr ⟨fun hm => by have := z3 _ hm; omega, k.2.2 _ (by decide)⟩) (Or.inr ⟨⟨fun hm => by have := z3 _ hm; omega, fun hm => by have := z3 _ hm; omega⟩, k.2.2 _ (by decide), k.2.2 _ (by decide), k.2.2 _ (by decide)⟩) ⟨fun hm => by have := z3 _ hm; omega, Or.inr fun hm => by have := z3 _ hm; omega⟩ (fun hm => by have := z3 _ hm; omega) (Or.inr fun x hm => by have := z3 _ hm; omega) (Or.inr fun x hm => by have := z3 _ hm; omega) (fun p hp hm => ?_)) (fun x hx => by have := z3 x (List.mem_cons_of_mem _ hx); omega) (by decide) (h.dr k (fun x hx => by have := z3 x (List.mem_cons_of_mem _ hx); omega) (by decide)) hT (h.pq k (by decide)) (h.p5 k (by decide))
  · rw [(hz x hx).2 hu]
    obtain ⟨_, g, e, _⟩ := hT
    exact ⟨_, e, no52_ne rfl⟩
  · have z4 : ∀ p ∈ shL, (p.1 < 336 ∨ p.1 = 531 ∨ p.1 = 533 ∨ (551 < p.1 ∧ p.1 < 555)) → p = (305, 0, 32) ∨ p = (533, 0, 65) := by decide
    rcases z4 p hp (z3 _ hm) with rfl | rfl
    · exact h5
    · exact h3
/-- sign -/
theorem rqS.sn {S S1 : ks_S} {V V1 : Nat → Value} {F n best : Nat} {B : Nat → Bk} {C R : List Nat} {t : Nat} {D D1 : Nat → dTx} {T T1 : List Nat} {q : Nat} {dt : Int64} {rs : Nat} (h : rqS S V F n best B C R t D T q dt rs) (k : pbK LSn FSn S S1 V V1) (sg : sgR S1 V1 gpG) (hD : rdS S1 t D1) (hT : buX S1 V1 531 1600 110 T1) : rqS S1 V1 F n best B C R t D1 T1 q dt rs := by
  have z1 : ∀ x ∈ 290 :: (LSa ++ (LSb ++ [542, 543])), (x < 337 ∨ (370 < x ∧ x < 374) ∨ x = 529 ∨ (533 < x ∧ x < 541) ∨ (541 < x ∧ x < 545) ∨ (551 < x ∧ x < 563)) ∧ (x < 300 ∨ 304 < x) ∧ rqU x = false := by decide
  have hz : ∀ x ∈ 290 :: LSn, ((x < 337 ∨ (370 < x ∧ x < 374) ∨ x = 529 ∨ (533 < x ∧ x < 541) ∨ (541 < x ∧ x < 545) ∨ (551 < x ∧ x < 563)) ∧ (x < 300 ∨ 304 < x) ∧ rqU x = false) ∨ (374 ≤ x ∧ x ≤ 528) := fun x hx => by
    rcases List.mem_cons.mp hx with rfl | hx
    · exact Or.inl (z1 _ List.mem_cons_self)
    · rcases List.mem_append.mp hx with hx | hx
      · exact Or.inl (z1 x (List.mem_cons_of_mem _ (List.mem_append_left _ hx)))
      · rcases List.mem_append.mp hx with hx | hx
        · exact Or.inl (z1 x (List.mem_cons_of_mem _ (List.mem_append_right _ (List.mem_append_left _ hx))))
        · rcases List.mem_append.mp hx with hx | hx
          · exact Or.inl (z1 x (List.mem_cons_of_mem _ (List.mem_append_right _ (List.mem_append_right _ hx))))
          · have := mem_LDw.mp hx
            exact Or.inr (by omega)
  have z3 : ∀ x, x ∈ 290 :: LSn → (x < 337 ∨ (370 < x ∧ x < 374) ∨ x = 529 ∨ (533 < x ∧ x < 541) ∨ (541 < x ∧ x < 545) ∨ (551 < x ∧ x < 563)) ∧ (x < 300 ∨ 304 < x) ∨ (374 ≤ x ∧ x ≤ 528) := fun x hx => by
    rcases hz x hx with h | h
    · exact Or.inl ⟨h.1, h.2.1⟩
    · exact Or.inr h
  obtain ⟨s1, s2, s3, s4, s5, s6, s7, s8, s9, sA, sB⟩ := id sg
  refine h.pb k (h.1.upd k.1.fr k.2.1 (h.1.rs k (fun x hx => by have := z3 x (List.mem_cons_of_mem _ hx); omega) (by decide)) (fun x hx _ hu => ?_) (Or.inl s4) (Or.inr fun x hx => by have := z3 x hx; omega) (Or.inl s8) (Or.inl s7) (Or.inl s3) ⟨fun hm => by have := z3 _ hm; omega, Or.inr fun hm => by have := z3 _ hm; omega⟩ (fun hm => by have := z3 _ hm; omega) (Or.inr fun x hm => by have := z3 _ hm; omega) (Or.inl s2) (fun p hp hm => ?_)) (fun x hx => by have := z3 x (List.mem_cons_of_mem _ hx); omega) (by decide) ⟨hD, (k.2.2 _ (by decide)).trans h.2.2.2.2.2.2.1.2⟩ hT (h.pq k (by decide)) (h.p5 k (by decide))
  · rcases hz x hx with h1 | h1
    · rw [h1.2.2] at hu; cases hu
    · exact rd_low hD x (mem_LDw.mpr (by omega))
  · have z4 : ∀ p ∈ shL, ((p.1 < 337 ∨ (370 < p.1 ∧ p.1 < 374) ∨ p.1 = 529 ∨ (533 < p.1 ∧ p.1 < 541) ∨ (541 < p.1 ∧ p.1 < 545) ∨ (551 < p.1 ∧ p.1 < 563)) ∧ (p.1 < 300 ∨ 304 < p.1) ∨ (374 ≤ p.1 ∧ p.1 ≤ 528)) → p = (305, 0, 32) ∨ p = (336, 0, 32) ∨ p = (529, 0, 131072) ∨ p = (542, 0, 80) ∨ p = (543, 0, 32) ∨ p = (544, 0, 64) := by decide
    rcases z4 p hp (z3 _ hm) with rfl | rfl | rfl | rfl | rfl | rfl
    · exact s5
    · exact s6
    · exact s1
    · exact sA
    · exact sB
    · exact s9
/-- judge to its verdict -/
theorem rqS.jg {S S1 : ks_S} {V V1 : Nat → Value} {F n best : Nat} {B : Nat → Bk} {C R : List Nat} {t : Nat} {D : Nat → dTx} {T : List Nat} {q : Nat} {dt : Int64} {rs rs1 : Nat} (h : rqS S V F n best B C R t D T q dt rs) (e : rjE S S1 V V1) (h55 : V1 55 = .int (nI rs1)) : rqS S1 V1 F n best B C R t D [] q dt rs1 := by
  obtain ⟨k, w, pj, h354, hT⟩ := e
  obtain ⟨⟨w1, w2⟩, w3, w4, w5, w6, w7, w8, w9, wA1, wB, wC, wD⟩ := id w
  have hz : ∀ x ∈ 290 :: LJe, (x < 300 ∨ x = 305 ∨ x = 338 ∨ (343 < x ∧ x < 360)) ∧ rqU x = false := by decide
  have z3 : ∀ x, x ∈ 290 :: LJe → (x < 300 ∨ x = 305 ∨ x = 338 ∨ (343 < x ∧ x < 360)) := fun x hx => (hz x hx).1
  refine h.pb k (h.1.upd k.1.fr k.2.1 (h.1.rs k (by decide) (by decide)) (fun x hx _ hu => ?_) (Or.inl w1) (Or.inr fun x hx => by have := z3 x hx; omega) (Or.inr fun x hx => by have := z3 x hx; omega) (Or.inr ⟨by decide, k.2.2 _ (by decide)⟩) (Or.inr ⟨by decide, k.2.2 _ (by decide), k.2.2 _ (by decide), k.2.2 _ (by decide)⟩) ⟨by decide, Or.inr (by decide)⟩ (by decide) (Or.inl pj) (Or.inr fun x hx => by have := z3 x hx; omega) (fun p hp hm => ?_)) (by decide) (by decide) (h.dr k (by decide) (by decide)) hT (h.pq k (by decide)) h55
  · rw [(hz x hx).2] at hu; cases hu
  · have z4 : ∀ p ∈ shL, p.1 ∈ 290 :: LJe → p = (305, 0, 32) ∨ p = (354, 0, 32) ∨ p = (357, 0, 32) ∨ p = (355, 0, 416) ∨ p = (356, 0, 64) ∨ p = (345, 1, 10) ∨ p = (344, 2, 11) ∨ p = (338, 3, 8) ∨ p = (358, 3, 8) ∨ p = (359, 3, 8) := by decide
    rcases z4 p hp hm with rfl | rfl | rfl | rfl | rfl | rfl | rfl | rfl | rfl | rfl
    · exact w2
    · exact h354
    · exact wB
    · exact w9
    · exact wA1
    · exact w8
    · exact w7
    · exact w4
    · exact wC
    · exact wD
