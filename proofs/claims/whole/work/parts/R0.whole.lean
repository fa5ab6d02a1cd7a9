/-! THE REFERENCE as a whole, between calls -/
def shL : List (Nat × Nat × Nat) := [(305, 0, 32), (336, 0, 32), (370, 0, 32), (354, 0, 32), (357, 0, 32), (355, 0, 416), (356, 0, 64), (529, 0, 131072), (530, 0, 384), (542, 0, 80), (543, 0, 32), (544, 0, 64), (533, 0, 65), (360, 1, 61), (345, 1, 10), (344, 2, 11), (338, 3, 8), (339, 3, 8), (340, 3, 8), (358, 3, 8), (359, 3, 8), (532, 3, 8)]
def shp (S : ks_S) (p : Nat × Nat × Nat) : Prop := match p.2.1 with
  | 0 => ∃ g, kO g ∧ S.2.2 p.1 = some (kB p.2.2 g)
  | 1 => ∃ f, S.2.2 p.1 = some (kN p.2.2 f)
  | 2 => ∃ f, S.2.2 p.1 = some (kL p.2.2 f)
  | _ => ∃ X, wA S p.1 X
def rqW (S : ks_S) (V : Nat → Value) (F : Nat) (Gp : Pt) : Prop := S.2.2 290 = some (rfE V) ∧ (∃ xs ys vs, rsQ S V F xs ys vs) ∧ lowS S ∧ mhR S ∧ mrR S ∧ ccS S Gp ∧ (∃ X, buX S V 373 16384 91 X) ∧ (∃ c, ctX S V c) ∧ (S.2.2 369 = some (kN 21 nedR) ∧ ∃ dn, S.2.2 368 = some (kZ 1601 dn)) ∧ wA S 337 (tg_num 545259519) ∧ pjS S ∧ dpS S ∧ ∀ p ∈ shL, shp S p
def rdZ (S : ks_S) : Prop := rdU S (fun _ => lN 0) (fun _ => lN 0) (fun _ => 0) (fun _ => 0) (fun _ => 0) (fun _ => nI 0) (fun _ => lN 0) (fun _ => 0) (fun _ => lN 0) (fun _ => 0) (fun _ _ => 0) (fun _ _ => 0)
def no52 (e : ks_E) : Bool := match e with
  | .inl (t, n, _) => !(t == 0 && n == 520)
  | .inr _ => true
theorem no52_ne {e : ks_E} (h : no52 e = true) : ∀ g, e ≠ kB 520 g := fun g he => by
  rw [he] at h
  exact absurd h (by show ¬ ((!((0 : Nat) == 0 && (520 : Nat) == 520)) = true); decide)
theorem icK_no : ∀ a, a < 545 → 291 ≤ a → no52 (icK a) = true := by decide +kernel
theorem cntN_all (n : Nat) : cntN (fun _ => true) n = n := by
  induction n with
  | zero => rfl
  | succ n ih => show cntN (fun _ => true) n + 1 = n + 1; rw [ih]
theorem fX_z8 {S : ks_S} {a : Nat} (h : S.2.2 a = some (kN 8 (fun _ => 0))) : fX S a 0 := ⟨by rw [Nat.zero_mul, Nat.zero_mod]; exact wA_z8 h, by decide⟩
def gpG : Pt := (gXX, gYY, 1)
def icP : Nat → Nat := fun k => if k = 308 then gXX else if k = 309 then gYY else if k = 310 then 1 else 0
set_option maxRecDepth 100000 in
set_option maxHeartbeats 1600000 in
theorem rq_of {S0 S : ks_S} (h : icZ S0 S icV) (hlow : ∀ x, x < 290 → ∃ e, S0.2.2 x = some e ∧ ∀ g, e ≠ kB 520 g) (hnw : ∀ a, 291 ≤ a → a < ks_B → S0.2.2 a = none) : rqW S icV 3006 gpG ∧ rdZ S ∧ buX S icV 531 1600 110 [] ∧ nwS S ∧ S.2.2 341 = some (kA 7 61 (fun _ => none)) ∧ S.2.2 342 = some (kN 512 (fun _ => 0)) ∧ S.2.2 343 = some (kN 2300 (fun _ => 0)) := by
  obtain ⟨⟨h1, h2, h3, h4, h5, ⟨h6, h61, h62⟩, h7, h8, ⟨f9, h9⟩, ⟨fA, hA⟩, fB, hB⟩, r7, x306, x308, x309, x310, x337⟩ := h
  have k0 : kO (fun _ => 0) := fun _ => (by decide : (0 : Nat) < 256)
  have hkB : 100000 < ks_B := by unfold ks_B; decide
  have nw : nwS S := fun a g1 g2 => by
    rw [h1] at g1
    rw [h5 a (Or.inr g1)]
    exact hnw a (by omega) g2
  have mh : mhR S := ⟨⟨fun _ => 0, k0, (h4 291 (by decide) (by decide) (by decide) : S.2.2 291 = some (kB 128 (fun _ => 0)))⟩, ⟨_, (h4 292 (by decide) (by decide) (by decide) : S.2.2 292 = some (kN 8 (fun _ => 0)))⟩, ⟨_, (h4 293 (by decide) (by decide) (by decide) : S.2.2 293 = some (kN 64 (fun _ => 0)))⟩, h7, h8, ⟨_, (h4 299 (by decide) (by decide) (by decide) : S.2.2 299 = some (kN 8 (fun _ => 0)))⟩⟩
  have mr : mrR S := ⟨(h4 300 (by decide) (by decide) (by decide) : S.2.2 300 = some (kI 160 (ks_row st_RIPE_ORDER))), (h4 301 (by decide) (by decide) (by decide) : S.2.2 301 = some (kI 160 (ks_row st_RIPE_TURNS))), (h4 302 (by decide) (by decide) (by decide) : S.2.2 302 = some (kI 10 (ks_row st_RIPE_WORDS))), ⟨_, (h4 303 (by decide) (by decide) (by decide) : S.2.2 303 = some (kN 5 (fun _ => 0)))⟩, ⟨_, (h4 304 (by decide) (by decide) (by decide) : S.2.2 304 = some (kN 5 (fun _ => 0)))⟩⟩
  have bs : buX S icV 373 16384 91 [] := ⟨rfl, fun _ => 0, (h4 373 (by decide) (by decide) (by decide) : S.2.2 373 = some (kB 16384 (fun _ => 0))), k0, Nat.zero_le _, rfl⟩
  have bt : buX S icV 531 1600 110 [] := ⟨rfl, fun _ => 0, (h4 531 (by decide) (by decide) (by decide) : S.2.2 531 = some (kB 1600 (fun _ => 0))), k0, Nat.zero_le _, rfl⟩
  have ct : ctX S icV [] := ⟨371, 372, fun _ => 0, fun _ => 0, Or.inl ⟨rfl, rfl⟩, rfl, rfl, (h4 371 (by decide) (by decide) (by decide) : S.2.2 371 = some (kB 1700 (fun _ => 0))), k0, (h4 372 (by decide) (by decide) (by decide) : S.2.2 372 = some (kB 1700 (fun _ => 0))), k0, rfl, Nat.zero_le _, rfl⟩
  have cv : cvR S icP := by
    refine ⟨r7, fun k hk => ?_, (h4 307 (by decide) (by decide) (by decide) : S.2.2 307 = some (.inr (17, [.ref 308, .ref 309, .ref 310]))), (h4 311 (by decide) (by decide) (by decide) : S.2.2 311 = some (.inr (17, [.ref 312, .ref 313, .ref 314]))), (h4 315 (by decide) (by decide) (by decide) : S.2.2 315 = some (.inr (17, [.ref 316, .ref 317, .ref 318]))), (h4 319 (by decide) (by decide) (by decide) : S.2.2 319 = some (.inr (17, [.ref 320, .ref 321, .ref 322])))⟩
    simp only [rwL, List.mem_cons, List.not_mem_nil, or_false] at hk
    rcases hk with rfl | rfl | rfl | rfl | rfl | rfl | rfl | rfl | rfl | rfl | rfl | rfl | rfl | rfl | rfl | rfl | rfl | rfl
    · exact x308
    · exact x309
    · exact x310
    · exact fX_z8 (h4 312 (by decide) (by decide) (by decide) : S.2.2 312 = some (kN 8 (fun _ => 0)))
    · exact fX_z8 (h4 313 (by decide) (by decide) (by decide) : S.2.2 313 = some (kN 8 (fun _ => 0)))
    · exact fX_z8 (h4 314 (by decide) (by decide) (by decide) : S.2.2 314 = some (kN 8 (fun _ => 0)))
    · exact fX_z8 (h4 316 (by decide) (by decide) (by decide) : S.2.2 316 = some (kN 8 (fun _ => 0)))
    · exact fX_z8 (h4 317 (by decide) (by decide) (by decide) : S.2.2 317 = some (kN 8 (fun _ => 0)))
    · exact fX_z8 (h4 318 (by decide) (by decide) (by decide) : S.2.2 318 = some (kN 8 (fun _ => 0)))
    · exact fX_z8 (h4 320 (by decide) (by decide) (by decide) : S.2.2 320 = some (kN 8 (fun _ => 0)))
    · exact fX_z8 (h4 321 (by decide) (by decide) (by decide) : S.2.2 321 = some (kN 8 (fun _ => 0)))
    · exact fX_z8 (h4 322 (by decide) (by decide) (by decide) : S.2.2 322 = some (kN 8 (fun _ => 0)))
    · exact fX_z8 (h4 323 (by decide) (by decide) (by decide) : S.2.2 323 = some (kN 8 (fun _ => 0)))
    · exact fX_z8 (h4 324 (by decide) (by decide) (by decide) : S.2.2 324 = some (kN 8 (fun _ => 0)))
    · exact fX_z8 (h4 325 (by decide) (by decide) (by decide) : S.2.2 325 = some (kN 8 (fun _ => 0)))
    · exact fX_z8 (h4 326 (by decide) (by decide) (by decide) : S.2.2 326 = some (kN 8 (fun _ => 0)))
    · exact fX_z8 (h4 327 (by decide) (by decide) (by decide) : S.2.2 327 = some (kN 8 (fun _ => 0)))
    · exact fX_z8 (h4 328 (by decide) (by decide) (by decide) : S.2.2 328 = some (kN 8 (fun _ => 0)))
  have ex : exW S := fun k g1 g2 => by
    have hk : k = 329 ∨ k = 330 ∨ k = 331 ∨ k = 332 ∨ k = 333 ∨ k = 334 ∨ k = 335 := by omega
    rcases hk with rfl | rfl | rfl | rfl | rfl | rfl | rfl
    · exact ⟨0, wA_z8 (h4 329 (by decide) (by decide) (by decide) : S.2.2 329 = some (kN 8 (fun _ => 0)))⟩
    · exact ⟨0, wA_z8 (h4 330 (by decide) (by decide) (by decide) : S.2.2 330 = some (kN 8 (fun _ => 0)))⟩
    · exact ⟨0, wA_z8 (h4 331 (by decide) (by decide) (by decide) : S.2.2 331 = some (kN 8 (fun _ => 0)))⟩
    · exact ⟨0, wA_z8 (h4 332 (by decide) (by decide) (by decide) : S.2.2 332 = some (kN 8 (fun _ => 0)))⟩
    · exact ⟨0, wA_z8 (h4 333 (by decide) (by decide) (by decide) : S.2.2 333 = some (kN 8 (fun _ => 0)))⟩
    · exact ⟨0, wA_z8 (h4 334 (by decide) (by decide) (by decide) : S.2.2 334 = some (kN 8 (fun _ => 0)))⟩
    · exact ⟨0, wA_z8 (h4 335 (by decide) (by decide) (by decide) : S.2.2 335 = some (kN 8 (fun _ => 0)))⟩
  have cc : ccS S gpG := ⟨⟨icP, cv, rfl⟩, h6, x306, ex⟩
  have rs : rsQ S icV 3006 [] [] (fun _ => none, []) := by
    have hfr : frT (fun _ _ => none) = 3006 := cntN_all 3006
    refine ⟨fun _ _ => none, fun _ => 0, fun _ => 0, fun _ => 0, ⟨⟨fun a ha => ?_, fun a i b j r e => (nomatch e), fun a i r e => (nomatch e), nw, by rw [h1, hfr]; omega⟩, ⟨(h4 362 (by decide) (by decide) (by decide) : S.2.2 362 = some (kN 1002 (fun _ => 0))), (h4 364 (by decide) (by decide) (by decide) : S.2.2 364 = some (kN 1002 (fun _ => 0))), (h4 366 (by decide) (by decide) (by decide) : S.2.2 366 = some (kN 1002 (fun _ => 0)))⟩, ⟨rfl, rfl, rfl⟩, ⟨Nat.zero_le _, Nat.zero_le _, Nat.zero_le _⟩, fun i hi => absurd hi (Nat.not_lt_zero _), fun i hi => absurd hi (Nat.not_lt_zero _), fun i hi => absurd hi (Nat.not_lt_zero _), rfl⟩, hfr, ⟨fun _ => 0, k0, (h4 367 (by decide) (by decide) (by decide) : S.2.2 367 = some (kB 9 (fun _ => 0)))⟩⟩
    have : a = 0 ∨ a = 1 ∨ a = 2 := by omega
    rcases this with rfl | rfl | rfl
    · exact (h4 361 (by decide) (by decide) (by decide) : S.2.2 361 = some (kA 4 1002 (fun _ => none)))
    · exact (h4 363 (by decide) (by decide) (by decide) : S.2.2 363 = some (kA 4 1002 (fun _ => none)))
    · exact (h4 365 (by decide) (by decide) (by decide) : S.2.2 365 = some (kA 4 1002 (fun _ => none)))
  have low : lowS S := fun x hx => by
    rcases Nat.lt_trichotomy x 290 with g | g | g
    · rw [h5 x (Or.inl g)]
      exact hlow x g
    · rw [g]
      exact ⟨_, h3, fun g he => nomatch he⟩
    · by_cases c1 : x < 545
      · by_cases c2 : x ∈ icE
        · simp only [icE, List.mem_cons, List.not_mem_nil, or_false] at c2
          rcases c2 with rfl | rfl | rfl | rfl | rfl | rfl | rfl | rfl | rfl | rfl
          · exact ⟨_, h7, no52_ne rfl⟩
          · exact ⟨_, h8, no52_ne rfl⟩
          · exact ⟨_, h9, no52_ne rfl⟩
          · exact ⟨_, hA, no52_ne rfl⟩
          · exact ⟨_, hB, no52_ne rfl⟩
          · exact ⟨_, x306.1.choose_spec.1, no52_ne rfl⟩
          · exact ⟨_, x308.1.choose_spec.1, no52_ne rfl⟩
          · exact ⟨_, x309.1.choose_spec.1, no52_ne rfl⟩
          · exact ⟨_, x310.1.choose_spec.1, no52_ne rfl⟩
          · exact ⟨_, x337.choose_spec.1, no52_ne rfl⟩
        · exact ⟨_, h4 x (by omega) c1 c2, no52_ne (icK_no x c1 (by omega))⟩
      · obtain ⟨⟨a1, a2, ⟨ga, a3, _⟩, _⟩, a4, a5, a6, ⟨_, a7⟩, _, a8⟩ := r7
        obtain ⟨⟨b1, b2, ⟨gb, b3, _⟩, _⟩, b4, b5, b6, ⟨_, b7⟩, _, b8⟩ := h6
        have hk : x = 545 ∨ x = 546 ∨ x = 547 ∨ x = 548 ∨ x = 549 ∨ x = 550 ∨ x = 551 ∨ x = 552 ∨ x = 553 ∨ x = 554 ∨ x = 555 ∨ x = 556 ∨ x = 557 ∨ x = 558 ∨ x = 559 ∨ x = 560 ∨ x = 561 ∨ x = 562 := by omega
        rcases hk with rfl | rfl | rfl | rfl | rfl | rfl | rfl | rfl | rfl | rfl | rfl | rfl | rfl | rfl | rfl | rfl | rfl | rfl
        · exact ⟨_, h61.choose_spec.1, no52_ne rfl⟩
        · exact ⟨_, h62.choose_spec.1, no52_ne rfl⟩
        · exact ⟨_, a1, no52_ne rfl⟩
        · exact ⟨_, a2.choose_spec.1, no52_ne rfl⟩
        · exact ⟨_, a4.choose_spec.1, no52_ne rfl⟩
        · exact ⟨_, a5.choose_spec.1, no52_ne rfl⟩
        · exact ⟨_, a6.choose_spec.1, no52_ne rfl⟩
        · exact ⟨_, a3, no52_ne rfl⟩
        · exact ⟨_, a7.choose_spec.1, no52_ne rfl⟩
        · exact ⟨_, a8.choose_spec.1, no52_ne rfl⟩
        · exact ⟨_, b1, no52_ne rfl⟩
        · exact ⟨_, b2.choose_spec.1, no52_ne rfl⟩
        · exact ⟨_, b4.choose_spec.1, no52_ne rfl⟩
        · exact ⟨_, b5.choose_spec.1, no52_ne rfl⟩
        · exact ⟨_, b6.choose_spec.1, no52_ne rfl⟩
        · exact ⟨_, b3, no52_ne rfl⟩
        · exact ⟨_, b7.choose_spec.1, no52_ne rfl⟩
        · exact ⟨_, b8.choose_spec.1, no52_ne rfl⟩
  have pj : pjS S := by
    refine ⟨.null, 0, fun _ _ => 0, fun _ => 0, (h4 346 (by decide) (by decide) (by decide) : S.2.2 346 = some (.inr (16, [.null, .int (nI 0), .ref 347, .ref 348, .ref 349, .ref 350, .ref 351, .ref 352, .ref 353]))), fun r hr => ?_, (h4 353 (by decide) (by decide) (by decide) : S.2.2 353 = some (kB 384 (fun _ => 0))), k0⟩
    have : r = 0 ∨ r = 1 ∨ r = 2 ∨ r = 3 ∨ r = 4 ∨ r = 5 := by omega
    rcases this with rfl | rfl | rfl | rfl | rfl | rfl
    · exact (h4 347 (by decide) (by decide) (by decide) : S.2.2 347 = some (kN 12 (fun _ => 0)))
    · exact (h4 348 (by decide) (by decide) (by decide) : S.2.2 348 = some (kN 12 (fun _ => 0)))
    · exact (h4 349 (by decide) (by decide) (by decide) : S.2.2 349 = some (kN 12 (fun _ => 0)))
    · exact (h4 350 (by decide) (by decide) (by decide) : S.2.2 350 = some (kN 12 (fun _ => 0)))
    · exact (h4 351 (by decide) (by decide) (by decide) : S.2.2 351 = some (kN 12 (fun _ => 0)))
    · exact (h4 352 (by decide) (by decide) (by decide) : S.2.2 352 = some (kN 12 (fun _ => 0)))
  have dp : dpS S := by
    refine ⟨⟨.null, (h4 534 (by decide) (by decide) (by decide) : S.2.2 534 = some (.inr (16, [.null, .int (nI 0), .ref 535, .ref 536, .ref 537, .ref 538, .ref 539, .ref 540, .ref 541])))⟩, fun r hr => ?_⟩
    have : r = 0 ∨ r = 1 ∨ r = 2 ∨ r = 3 ∨ r = 4 ∨ r = 5 := by omega
    rcases this with rfl | rfl | rfl | rfl | rfl | rfl
    · exact ⟨_, (h4 535 (by decide) (by decide) (by decide) : S.2.2 535 = some (kN 12 (fun _ => 0)))⟩
    · exact ⟨_, (h4 536 (by decide) (by decide) (by decide) : S.2.2 536 = some (kN 12 (fun _ => 0)))⟩
    · exact ⟨_, (h4 537 (by decide) (by decide) (by decide) : S.2.2 537 = some (kN 12 (fun _ => 0)))⟩
    · exact ⟨_, (h4 538 (by decide) (by decide) (by decide) : S.2.2 538 = some (kN 12 (fun _ => 0)))⟩
    · exact ⟨_, (h4 539 (by decide) (by decide) (by decide) : S.2.2 539 = some (kN 12 (fun _ => 0)))⟩
    · exact ⟨_, (h4 540 (by decide) (by decide) (by decide) : S.2.2 540 = some (kN 12 (fun _ => 0)))⟩
  have sh : ∀ p ∈ shL, shp S p := by
    intro p hp
    simp only [shL, List.mem_cons, List.not_mem_nil, or_false] at hp
    rcases hp with rfl | rfl | rfl | rfl | rfl | rfl | rfl | rfl | rfl | rfl | rfl | rfl | rfl | rfl | rfl | rfl | rfl | rfl | rfl | rfl | rfl | rfl
    · exact ⟨fun _ => 0, k0, (h4 305 (by decide) (by decide) (by decide) : S.2.2 305 = some (kB 32 (fun _ => 0)))⟩
    · exact ⟨fun _ => 0, k0, (h4 336 (by decide) (by decide) (by decide) : S.2.2 336 = some (kB 32 (fun _ => 0)))⟩
    · exact ⟨fun _ => 0, k0, (h4 370 (by decide) (by decide) (by decide) : S.2.2 370 = some (kB 32 (fun _ => 0)))⟩
    · exact ⟨fun _ => 0, k0, (h4 354 (by decide) (by decide) (by decide) : S.2.2 354 = some (kB 32 (fun _ => 0)))⟩
    · exact ⟨fun _ => 0, k0, (h4 357 (by decide) (by decide) (by decide) : S.2.2 357 = some (kB 32 (fun _ => 0)))⟩
    · exact ⟨fun _ => 0, k0, (h4 355 (by decide) (by decide) (by decide) : S.2.2 355 = some (kB 416 (fun _ => 0)))⟩
    · exact ⟨fun _ => 0, k0, (h4 356 (by decide) (by decide) (by decide) : S.2.2 356 = some (kB 64 (fun _ => 0)))⟩
    · exact ⟨fun _ => 0, k0, (h4 529 (by decide) (by decide) (by decide) : S.2.2 529 = some (kB 131072 (fun _ => 0)))⟩
    · exact ⟨fun _ => 0, k0, (h4 530 (by decide) (by decide) (by decide) : S.2.2 530 = some (kB 384 (fun _ => 0)))⟩
    · exact ⟨fun _ => 0, k0, (h4 542 (by decide) (by decide) (by decide) : S.2.2 542 = some (kB 80 (fun _ => 0)))⟩
    · exact ⟨fun _ => 0, k0, (h4 543 (by decide) (by decide) (by decide) : S.2.2 543 = some (kB 32 (fun _ => 0)))⟩
    · exact ⟨fun _ => 0, k0, (h4 544 (by decide) (by decide) (by decide) : S.2.2 544 = some (kB 64 (fun _ => 0)))⟩
    · exact ⟨fun _ => 0, k0, (h4 533 (by decide) (by decide) (by decide) : S.2.2 533 = some (kB 65 (fun _ => 0)))⟩
    · exact ⟨_, (h4 360 (by decide) (by decide) (by decide) : S.2.2 360 = some (kN 61 (fun _ => 0)))⟩
    · exact ⟨_, (h4 345 (by decide) (by decide) (by decide) : S.2.2 345 = some (kN 10 (fun _ => 0)))⟩
    · exact ⟨_, (h4 344 (by decide) (by decide) (by decide) : S.2.2 344 = some (kL 11 (fun _ => 0)))⟩
    · exact ⟨0, wA_z8 (h4 338 (by decide) (by decide) (by decide) : S.2.2 338 = some (kN 8 (fun _ => 0)))⟩
    · exact ⟨0, wA_z8 (h4 339 (by decide) (by decide) (by decide) : S.2.2 339 = some (kN 8 (fun _ => 0)))⟩
    · exact ⟨0, wA_z8 (h4 340 (by decide) (by decide) (by decide) : S.2.2 340 = some (kN 8 (fun _ => 0)))⟩
    · exact ⟨0, wA_z8 (h4 358 (by decide) (by decide) (by decide) : S.2.2 358 = some (kN 8 (fun _ => 0)))⟩
    · exact ⟨0, wA_z8 (h4 359 (by decide) (by decide) (by decide) : S.2.2 359 = some (kN 8 (fun _ => 0)))⟩
    · exact ⟨0, wA_z8 (h4 532 (by decide) (by decide) (by decide) : S.2.2 532 = some (kN 8 (fun _ => 0)))⟩
  refine ⟨⟨h3, ⟨[], [], (fun _ => none, []), rs⟩, low, mh, mr, cc, ⟨[], bs⟩, ⟨[], ct⟩, ⟨(h4 369 (by decide) (by decide) (by decide) : S.2.2 369 = some (kN 21 nedR)), ⟨_, (h4 368 (by decide) (by decide) (by decide) : S.2.2 368 = some (kZ 1601 (fun _ => false)))⟩⟩, x337, pj, dp, sh⟩, ⟨⟨(h4 374 (by decide) (by decide) (by decide) : S.2.2 374 = some (kL 12 (fun _ => 0))), (h4 375 (by decide) (by decide) (by decide) : S.2.2 375 = some (kL 12 (fun _ => 0))), (h4 376 (by decide) (by decide) (by decide) : S.2.2 376 = some (kN 12 (fun _ => 0))), (h4 377 (by decide) (by decide) (by decide) : S.2.2 377 = some (kN 12 (fun _ => 0)))⟩, ⟨(h4 378 (by decide) (by decide) (by decide) : S.2.2 378 = some (kB 2592 (fun _ => 0))), k0⟩, ⟨(h4 379 (by decide) (by decide) (by decide) : S.2.2 379 = some (kL 72 (fun _ => 0))), (h4 453 (by decide) (by decide) (by decide) : S.2.2 453 = some (kN 72 (fun _ => 0))), (h4 454 (by decide) (by decide) (by decide) : S.2.2 454 = some (kL 72 (fun _ => 0))), (h4 528 (by decide) (by decide) (by decide) : S.2.2 528 = some (kN 72 (fun _ => 0)))⟩, ⟨(h4 380 (by decide) (by decide) (by decide) : S.2.2 380 = some (kA 4 72 (fun i => if i < 72 then some (380 + 1 + i) else none))), (h4 455 (by decide) (by decide) (by decide) : S.2.2 455 = some (kA 4 72 (fun i => if i < 72 then some (455 + 1 + i) else none)))⟩, fun r hr => ?_, fun _ => k0, fun r hr => ?_, fun _ => k0, fun r hr => (show bytL (fun _ => 0) (36 * r + 32) 4 = numL (nI 0).toInt64 4 by rw [show numL (nI 0).toInt64 4 = [0, 0, 0, 0] by decide]; rfl)⟩, bt, nw, (h4 341 (by decide) (by decide) (by decide) : S.2.2 341 = some (kA 7 61 (fun _ => none))), (h4 342 (by decide) (by decide) (by decide) : S.2.2 342 = some (kN 512 (fun _ => 0))), (h4 343 (by decide) (by decide) (by decide) : S.2.2 343 = some (kN 2300 (fun _ => 0)))⟩
  · rw [← icK_r (381 + r) (by omega)]
    exact h4 (381 + r) (by omega) (by omega) (by simp only [icE, List.mem_cons, List.not_mem_nil, or_false]; omega)
  · rw [← icK_r (456 + r) (by omega)]
    exact h4 (456 + r) (by omega) (by omega) (by simp only [icE, List.mem_cons, List.not_mem_nil, or_false]; omega)
theorem rqW.s {S : ks_S} {V : Nat → Value} {F : Nat} {Gp : Pt} (h : rqW S V F Gp) {p : Nat × Nat × Nat} (hp : p ∈ shL) : shp S p := h.2.2.2.2.2.2.2.2.2.2.2.2 p hp
theorem rqW.mq {S : ks_S} {V : Nat → Value} {F : Nat} {Gp : Pt} (h : rqW S V F Gp) : mqB S V F Gp := by
  have s := @rqW.s S V F Gp h
  obtain ⟨h1, ⟨xs, ys, vs, h2⟩, h3, h4, h5, h6, h7, h8, ⟨h9, hA⟩, -⟩ := h
  have s1 := s (p := (305, 0, 32)) (by decide)
  exact ⟨xs, ys, vs, h1, h2, ⟨⟨h4, s1⟩, s (p := (336, 0, 32)) (by decide), h7, h8, h6⟩, ⟨h4, h5, s1, s (p := (370, 0, 32)) (by decide)⟩, h9, h3, hA⟩
theorem rqW.rw {S : ks_S} {V : Nat → Value} {F : Nat} {Gp : Pt} (h : rqW S V F Gp) : rwS S := by
  have s := @rqW.s S V F Gp h
  obtain ⟨h1, h2, h3, h4, h5, h6, h7, h8, h9, hA, hB, hC, hD⟩ := h
  exact ⟨⟨h4, s (p := (305, 0, 32)) (by decide)⟩, hA, s (p := (338, 3, 8)) (by decide), s (p := (339, 3, 8)) (by decide), s (p := (340, 3, 8)) (by decide), s (p := (344, 2, 11)) (by decide), s (p := (345, 1, 10)) (by decide), s (p := (355, 0, 416)) (by decide), s (p := (356, 0, 64)) (by decide), s (p := (357, 0, 32)) (by decide), s (p := (358, 3, 8)) (by decide), s (p := (359, 3, 8)) (by decide)⟩
theorem rqW.as {S : ks_S} {V : Nat → Value} {F : Nat} {Gp : Pt} (h : rqW S V F Gp) : asR S := by
  have s := @rqW.s S V F Gp h
  obtain ⟨h1, h2, h3, h4, h5, h6, h7, h8, h9, hA, hB, hC, hD⟩ := h
  exact ⟨h4, s (p := (305, 0, 32)) (by decide), s (p := (529, 0, 131072)) (by decide), s (p := (530, 0, 384)) (by decide), s (p := (355, 0, 416)) (by decide), s (p := (356, 0, 64)) (by decide), s (p := (357, 0, 32)) (by decide), s (p := (338, 3, 8)) (by decide), s (p := (345, 1, 10)) (by decide), s (p := (532, 3, 8)) (by decide), s (p := (370, 0, 32)) (by decide), s (p := (359, 3, 8)) (by decide)⟩
theorem rqW.sg {S : ks_S} {V : Nat → Value} {F : Nat} {Gp : Pt} (h : rqW S V F Gp) : sgR S V Gp := by
  have s := @rqW.s S V F Gp h
  obtain ⟨h1, h2, h3, h4, h5, h6, h7, h8, h9, hA, hB, hC, hD⟩ := h
  exact ⟨s (p := (529, 0, 131072)) (by decide), hC, h8, h4, s (p := (305, 0, 32)) (by decide), s (p := (336, 0, 32)) (by decide), h7, h6, s (p := (544, 0, 64)) (by decide), s (p := (542, 0, 80)) (by decide), s (p := (543, 0, 32)) (by decide)⟩
def frS (L : List Nat) (S S1 : ks_S) : Prop := ∀ a e, S.2.2 a = some e → a ∉ L → (∀ g, e ≠ kB 520 g) → S1.2.2 a = some e
theorem frS.k {L : List Nat} {S S1 : ks_S} (h : frS L S S1) : sfK L S (S.1, S.2.1, S1.2.2) 0 0 := ⟨⟨rfl, rfl, Nat.le_refl _⟩, h⟩
theorem shp.fr {L : List Nat} {S S1 : ks_S} {p : Nat × Nat × Nat} (h : shp S p) (fr : frS L S S1) (hp : p.1 ∉ L) (hn : p.2.2 ≠ 520) : shp S1 p := by
  obtain ⟨a, k, n⟩ := p
  change n ≠ 520 at hn
  rcases k with _ | _ | _ | k
  · obtain ⟨g, h1, h2⟩ := h
    exact ⟨g, h1, fr a _ h2 hp (fun g9 he => hn (by injection he with he; injection he with _ he; injection he))⟩
  · obtain ⟨f, h2⟩ := h
    exact ⟨f, fr a _ h2 hp (fun g9 he => by injection he with he; injection he with he; exact absurd he (by decide))⟩
  · obtain ⟨f, h2⟩ := h
    exact ⟨f, fr a _ h2 hp (fun g9 he => by injection he with he; injection he with he; exact absurd he (by decide))⟩
  · obtain ⟨X, g, h2, h3⟩ := h
    exact ⟨X, g, fr a _ h2 hp (fun g9 he => by injection he with he; injection he with he; exact absurd he (by decide)), h3⟩
theorem shL_n : ∀ p ∈ shL, p.2.2 ≠ 520 := by decide
theorem shp.non {S : ks_S} {p : Nat × Nat × Nat} (h : shp S p) (hn : p.2.2 ≠ 520) : ∃ e, S.2.2 p.1 = some e ∧ ∀ g, e ≠ kB 520 g := by
  obtain ⟨a, k, n⟩ := p
  change n ≠ 520 at hn
  rcases k with _ | _ | _ | k
  · obtain ⟨g, h1, h2⟩ := h
    exact ⟨_, h2, fun g9 he => hn (by injection he with he; injection he with _ he; injection he)⟩
  · obtain ⟨f, h2⟩ := h
    exact ⟨_, h2, no52_ne rfl⟩
  · obtain ⟨f, h2⟩ := h
    exact ⟨_, h2, no52_ne rfl⟩
  · obtain ⟨X, g, h2, h3⟩ := h
    exact ⟨_, h2, no52_ne rfl⟩
theorem wA.non {S : ks_S} {a V : Nat} (h : wA S a V) : ∃ e, S.2.2 a = some e ∧ ∀ g, e ≠ kB 520 g := by
  obtain ⟨g, h1, _⟩ := h
  exact ⟨_, h1, no52_ne rfl⟩
theorem rgF.non {S : ks_S} {o m mu : Nat} (h : rgF S o m mu) : ∀ x, o ≤ x → x ≤ o + 7 → ∃ e, S.2.2 x = some e ∧ ∀ g, e ≠ kB 520 g := fun x h1 h2 => by
  obtain ⟨⟨a1, a2, ⟨ga, a3, _⟩, _⟩, a4, a5, a6, ⟨_, a7⟩, _, a8⟩ := h
  have hk : x = o ∨ x = o + 1 ∨ x = o + 2 ∨ x = o + 3 ∨ x = o + 4 ∨ x = o + 5 ∨ x = o + 6 ∨ x = o + 7 := by omega
  rcases hk with rfl | rfl | rfl | rfl | rfl | rfl | rfl | rfl
  · exact ⟨_, a1, no52_ne rfl⟩
  · exact a2.non
  · exact a4.non
  · exact a5.non
  · exact a6.non
  · exact ⟨_, a3, no52_ne rfl⟩
  · exact a7.non
  · exact a8.non
def rwV (x : Nat) : Bool := (decide (x ∈ rwL)) || (decide (x = 306)) || (decide (x = 307)) || (decide (x = 311)) || (decide (x = 315)) || (decide (x = 319)) || (decide (329 ≤ x ∧ x ≤ 335)) || (decide (547 ≤ x ∧ x ≤ 554)) || (decide (555 ≤ x ∧ x ≤ 562))
theorem rwV_b : ∀ x, x < 563 → (decide (306 ≤ x) && decide (x ≤ 335) || decide (547 ≤ x) && decide (x ≤ 562)) = true → rwV x = true := by decide +kernel
theorem rwV_c (x : Nat) (hx : (306 ≤ x ∧ x ≤ 335) ∨ (547 ≤ x ∧ x ≤ 562)) : x ∈ rwL ∨ x = 306 ∨ x = 307 ∨ x = 311 ∨ x = 315 ∨ x = 319 ∨ (329 ≤ x ∧ x ≤ 335) ∨ (547 ≤ x ∧ x ≤ 554) ∨ (555 ≤ x ∧ x ≤ 562) := by
  have h := rwV_b x (by omega) (by
    simp only [Bool.or_eq_true, Bool.and_eq_true, decide_eq_true_eq]
    exact hx)
  unfold rwV at h
  simp only [Bool.or_eq_true, decide_eq_true_eq, or_assoc] at h
  exact h
theorem ccS.non {S : ks_S} {Gp : Pt} (h : ccS S Gp) : ∀ x, (306 ≤ x ∧ x ≤ 335) ∨ (547 ≤ x ∧ x ≤ 562) → ∃ e, S.2.2 x = some e ∧ ∀ g, e ≠ kB 520 g := fun x hx => by
  obtain ⟨⟨R, ⟨c1, c2, c3, c4, c5, c6⟩, -⟩, r2, f7, ex⟩ := h
  rcases rwV_c x hx with h | rfl | rfl | rfl | rfl | rfl | h | h | h
  · exact (c2 x h).1.non
  · exact f7.1.non
  · exact ⟨_, c3, no52_ne rfl⟩
  · exact ⟨_, c4, no52_ne rfl⟩
  · exact ⟨_, c5, no52_ne rfl⟩
  · exact ⟨_, c6, no52_ne rfl⟩
  · obtain ⟨V, w⟩ := ex x h.1 h.2
    exact w.non
  · exact c1.non x h.1 h.2
  · exact r2.non x h.1 h.2
/-- cells below 563 of which the rest of rqW says nothing -/
def rqU (x : Nat) : Bool := decide (x < 290) || (decide (296 ≤ x) && decide (x ≤ 298)) || (decide (341 ≤ x) && decide (x ≤ 343)) || (decide (374 ≤ x) && decide (x ≤ 528)) || decide (x = 531) || decide (x = 541) || decide (x = 545) || decide (x = 546)
def rqV (x : Nat) : Bool := (decide (x = 290)) || (decide (x ∈ ([291, 292, 293, 294, 295, 299] : List Nat))) || (decide (x ∈ ([300, 301, 302, 303, 304] : List Nat))) || (decide (306 ≤ x ∧ x ≤ 335)) || (decide (547 ≤ x ∧ x ≤ 562)) || (decide (x = 346)) || (decide (347 ≤ x ∧ x < 353)) || (decide (x = 353)) || (decide (x ∈ ([361, 362, 363, 364, 365, 366, 367] : List Nat))) || (decide (x = 368)) || (decide (x = 369)) || (decide (x = 371)) || (decide (x = 372)) || (decide (x = 373)) || (decide (x = 337)) || (decide (x = 534)) || (decide (535 ≤ x ∧ x < 541)) || (decide (x ∈ shL.map (fun p => p.1)))
theorem rqU_b : ∀ x, x < 563 → rqU x = false → rqV x = true := by decide +kernel
theorem rqU_c (x : Nat) (h1 : x < 563) (h2 : rqU x = false) : x = 290 ∨ x ∈ ([291, 292, 293, 294, 295, 299] : List Nat) ∨ x ∈ ([300, 301, 302, 303, 304] : List Nat) ∨ (306 ≤ x ∧ x ≤ 335) ∨ (547 ≤ x ∧ x ≤ 562) ∨ x = 346 ∨ (347 ≤ x ∧ x < 353) ∨ x = 353 ∨ x ∈ ([361, 362, 363, 364, 365, 366, 367] : List Nat) ∨ x = 368 ∨ x = 369 ∨ x = 371 ∨ x = 372 ∨ x = 373 ∨ x = 337 ∨ x = 534 ∨ (535 ≤ x ∧ x < 541) ∨ x ∈ shL.map (fun p => p.1) := by
  have h := rqU_b x h1 h2
  unfold rqV at h
  simp only [Bool.or_eq_true, decide_eq_true_eq, or_assoc] at h
  exact h
theorem rq_low {S : ks_S} {V : Nat → Value} {F : Nat} {Gp : Pt} (o : S.2.2 290 = some (rfE V)) (rs : ∃ xs ys vs, rsQ S V F xs ys vs) (mh : mhR S) (mr : mrR S) (cc : ccS S Gp) (bu : ∃ X, buX S V 373 16384 91 X) (ct : ∃ c, ctX S V c) (h69 : S.2.2 369 = some (kN 21 nedR) ∧ ∃ dn, S.2.2 368 = some (kZ 1601 dn)) (w7 : wA S 337 (tg_num 545259519)) (pj : pjS S) (dp : dpS S) (sh : ∀ p ∈ shL, shp S p) : ∀ x, x < 563 → rqU x = false → ∃ e, S.2.2 x = some e ∧ ∀ g, e ≠ kB 520 g := fun x hx hu => by
  obtain ⟨w0, c0, A, gi, p1, p2, p3, p4⟩ := pj
  obtain ⟨⟨v, d1⟩, d2⟩ := dp
  obtain ⟨c, a, b, ga, gb, hab, -, -, e1, -, e2, -⟩ := ct
  rcases rqU_c x hx hu with rfl | h | h | h | h | rfl | h | rfl | h | rfl | rfl | rfl | rfl | rfl | rfl | rfl | h | h
  · exact ⟨_, o, fun g he => nomatch he⟩
  · obtain ⟨⟨g1, _, b1⟩, ⟨_, b2⟩, ⟨_, b3⟩, b4, b5, _, b6⟩ := mh
    simp only [List.mem_cons, List.not_mem_nil, or_false] at h
    rcases h with rfl | rfl | rfl | rfl | rfl | rfl
    · exact ⟨_, b1, no52_ne rfl⟩
    · exact ⟨_, b2, no52_ne rfl⟩
    · exact ⟨_, b3, no52_ne rfl⟩
    · exact ⟨_, b4, no52_ne rfl⟩
    · exact ⟨_, b5, no52_ne rfl⟩
    · exact ⟨_, b6, no52_ne rfl⟩
  · obtain ⟨m1, m2, m3, ⟨f4, m4⟩, f5, m5⟩ := mr
    simp only [List.mem_cons, List.not_mem_nil, or_false] at h
    rcases h with rfl | rfl | rfl | rfl | rfl
    · exact ⟨_, m1, no52_ne rfl⟩
    · exact ⟨_, m2, no52_ne rfl⟩
    · exact ⟨_, m3, no52_ne rfl⟩
    · exact ⟨_, m4, no52_ne rfl⟩
    · exact ⟨_, m5, no52_ne rfl⟩
  · exact cc.non x (Or.inl h)
  · exact cc.non x (Or.inr h)
  · exact ⟨_, p1, no52_ne rfl⟩
  · have e := p2 (x - 347) (by omega)
    rw [show 347 + (x - 347) = x by omega] at e
    exact ⟨_, e, no52_ne rfl⟩
  · exact ⟨_, p3, no52_ne rfl⟩
  · obtain ⟨xs, ys, vs, r⟩ := rs
    exact r.non x h
  · obtain ⟨_, e⟩ := h69.2
    exact ⟨_, e, no52_ne rfl⟩
  · exact ⟨_, h69.1, no52_ne rfl⟩
  · rcases hab with ⟨rfl, rfl⟩ | ⟨rfl, rfl⟩
    · exact ⟨_, e1, no52_ne rfl⟩
    · exact ⟨_, e2, no52_ne rfl⟩
  · rcases hab with ⟨rfl, rfl⟩ | ⟨rfl, rfl⟩
    · exact ⟨_, e2, no52_ne rfl⟩
    · exact ⟨_, e1, no52_ne rfl⟩
  · obtain ⟨_, _, g, e, _⟩ := bu
    exact ⟨_, e, no52_ne rfl⟩
  · exact w7.non
  · exact ⟨_, d1, no52_ne rfl⟩
  · obtain ⟨f, e⟩ := d2 (x - 535) (by omega)
    rw [show 535 + (x - 535) = x by omega] at e
    exact ⟨_, e, no52_ne rfl⟩
  · obtain ⟨p, hp, rfl⟩ := List.mem_map.mp h
    exact (sh p hp).non (shL_n p hp)
theorem rqW.upd {S S1 : ks_S} {V V1 : Nat → Value} {F F1 : Nat} {Gp : Pt} {L : List Nat} (h : rqW S V F Gp) (fr : frS L S S1) (o1 : S1.2.2 290 = some (rfE V1)) (hrs : ∃ xs ys vs, rsQ S1 V1 F1 xs ys vs) (hlo : ∀ x ∈ L, x < 563 → rqU x = true → ∃ e, S1.2.2 x = some e ∧ ∀ g, e ≠ kB 520 g) (a1 : mhR S1 ∨ ∀ x ∈ L, x < 291 ∨ 299 < x) (a2 : mrR S1 ∨ ∀ x ∈ L, x < 300 ∨ 304 < x) (a3 : ccS S1 Gp ∨ ∀ x ∈ L, (x < 306 ∨ 335 < x) ∧ (x < 547 ∨ 562 < x)) (a4 : (∃ X, buX S1 V1 373 16384 91 X) ∨ (373 ∉ L ∧ V1 91 = V 91)) (a5 : (∃ c, ctX S1 V1 c) ∨ ((371 ∉ L ∧ 372 ∉ L) ∧ V1 87 = V 87 ∧ V1 88 = V 88 ∧ V1 89 = V 89)) (a6 : 369 ∉ L ∧ ((∃ dn, S1.2.2 368 = some (kZ 1601 dn)) ∨ 368 ∉ L)) (a7 : 337 ∉ L) (a8 : pjS S1 ∨ ∀ x ∈ L, x < 346 ∨ 353 < x) (a9 : dpS S1 ∨ ∀ x ∈ L, x < 534 ∨ 540 < x) (a10 : ∀ p ∈ shL, p.1 ∈ L → shp S1 p) : rqW S1 V1 F1 Gp := by
  have fk := fr.k
  obtain ⟨h1, h2, h3, h4, h5, h6, ⟨X, h7⟩, ⟨c, h8⟩, ⟨h9, dn, h99⟩, hA, hB, hC, hD⟩ := h
  have b1 : mhR S1 := by
    rcases a1 with a1 | a1
    · exact a1
    · exact (h4.sf fk a1 : mhR (S.1, S.2.1, S1.2.2))
  have b2 : mrR S1 := by
    rcases a2 with a2 | a2
    · exact a2
    · obtain ⟨m1, m2, m3, ⟨f4, m4⟩, f5, m5⟩ := h5
      exact ⟨fr _ _ m1 (fun hm => by have := a2 _ hm; omega) (no52_ne rfl), fr _ _ m2 (fun hm => by have := a2 _ hm; omega) (no52_ne rfl), fr _ _ m3 (fun hm => by have := a2 _ hm; omega) (no52_ne rfl), ⟨f4, fr _ _ m4 (fun hm => by have := a2 _ hm; omega) (no52_ne rfl)⟩, f5, fr _ _ m5 (fun hm => by have := a2 _ hm; omega) (no52_ne rfl)⟩
  have b3 : ccS S1 Gp := by
    rcases a3 with a3 | a3
    · exact a3
    · exact (h6.sf fk a3 : ccS (S.1, S.2.1, S1.2.2) Gp)
  have b4 : ∃ X, buX S1 V1 373 16384 91 X := by
    rcases a4 with a4 | ⟨a4, v⟩
    · exact a4
    · exact ⟨X, (h7.sf (by decide) fk a4 v : buX (S.1, S.2.1, S1.2.2) V1 373 16384 91 X)⟩
  have b5 : ∃ c, ctX S1 V1 c := by
    rcases a5 with a5 | ⟨a5, v⟩
    · exact a5
    · exact ⟨c, (h8.sf fk a5 v : ctX (S.1, S.2.1, S1.2.2) V1 c)⟩
  have b6 : S1.2.2 369 = some (kN 21 nedR) ∧ ∃ dn, S1.2.2 368 = some (kZ 1601 dn) := by
    refine ⟨fr _ _ h9 a6.1 (no52_ne rfl), ?_⟩
    rcases a6.2 with a6 | a6
    · exact a6
    · exact ⟨dn, fr _ _ h99 a6 (no52_ne rfl)⟩
  have b7 : wA S1 337 (tg_num 545259519) := (hA.sf fk a7 : wA (S.1, S.2.1, S1.2.2) 337 (tg_num 545259519))
  have b8 : pjS S1 := by
    rcases a8 with a8 | a8
    · exact a8
    · obtain ⟨w0, c0, A, gi, p1, p2, p3, p4⟩ := hB
      exact ⟨w0, c0, A, gi, fr _ _ p1 (fun hm => by have := a8 _ hm; omega) (no52_ne rfl), fun r hr => fr _ _ (p2 r hr) (fun hm => by have := a8 _ hm; omega) (no52_ne rfl), fr _ _ p3 (fun hm => by have := a8 _ hm; omega) (no52_ne rfl), p4⟩
  have b9 : dpS S1 := by
    rcases a9 with a9 | a9
    · exact a9
    · obtain ⟨⟨v, p1⟩, p2⟩ := hC
      refine ⟨⟨v, fr _ _ p1 (fun hm => by have := a9 _ hm; omega) (no52_ne rfl)⟩, fun r hr => ?_⟩
      obtain ⟨f, p3⟩ := p2 r hr
      exact ⟨f, fr _ _ p3 (fun hm => by have := a9 _ hm; omega) (no52_ne rfl)⟩
  have bA : ∀ p ∈ shL, shp S1 p := fun p hp => by
    by_cases c : p.1 ∈ L
    · exact a10 p hp c
    · exact (hD p hp).fr fr c (shL_n p hp)
  refine ⟨o1, hrs, fun x hx => ?_, b1, b2, b3, b4, b5, b6, b7, b8, b9, bA⟩
  by_cases c : x ∈ L
  · cases hu : rqU x with
    | true => exact hlo x c hx hu
    | false => exact rq_low o1 hrs b1 b2 b3 b4 b5 b6 b7 b8 b9 bA x hx hu
  · obtain ⟨e, e1, e2⟩ := h3 x hx
    exact ⟨e, fr x e e1 c e2, e2⟩
theorem ks_up.fr {L : List Nat} {S S1 : ks_S} (h : ks_up S S1 L) : frS L S S1 := fun a e h1 h2 _ => h.at h1 h2
theorem rqW.rs {S S1 : ks_S} {V V1 : Nat → Value} {F : Nat} {Gp : Pt} {L Fs : List Nat} (h : rqW S V F Gp) (k : pbK L Fs S S1 V V1) (hL : ∀ x ∈ L, (x < 361 ∨ 367 < x) ∧ x < 563) (hF : 67 ∉ Fs ∧ 70 ∉ Fs ∧ 73 ∉ Fs) : ∃ xs ys vs, rsQ S1 V1 F xs ys vs := by
  obtain ⟨h1, ⟨xs, ys, vs, h2⟩, h3, -⟩ := h
  refine ⟨xs, ys, vs, (h2.up k.1 (fun x hx => ?_) (fun x hx => ?_)).val ⟨k.2.2 _ hF.1, k.2.2 _ hF.2.1, k.2.2 _ hF.2.2⟩⟩
  · rcases List.mem_cons.mp hx with rfl | hx
    · omega
    · exact (hL x hx).1
  · rcases List.mem_cons.mp hx with rfl | hx
    · exact h3 _ (by decide)
    · exact h3 x (hL x hx).2
theorem rqW.ob {S S1 : ks_S} {V V1 : Nat → Value} {F : Nat} {Gp : Pt} {L Fs : List Nat} (h : rqW S V F Gp) (k : pbK L Fs S S1 V V1) (hF : 67 ∉ Fs ∧ 70 ∉ Fs ∧ 73 ∉ Fs ∧ 87 ∉ Fs ∧ 88 ∉ Fs ∧ 89 ∉ Fs ∧ 91 ∉ Fs) (hL : ∀ x ∈ L, (x = 341 ∨ x = 342 ∨ x = 343 ∨ (374 ≤ x ∧ x ≤ 528) ∨ x = 531)) (hlo : ∀ x ∈ L, ∃ e, S1.2.2 x = some e ∧ ∀ g, e ≠ kB 520 g) : rqW S1 V1 F Gp := by
  have hL' : ∀ x ∈ (290 :: L), (x = 290 ∨ x = 341 ∨ x = 342 ∨ x = 343 ∨ (374 ≤ x ∧ x ≤ 528) ∨ x = 531) := fun x hx => by
    rcases List.mem_cons.mp hx with rfl | hx
    · exact Or.inl rfl
    · exact Or.inr (hL x hx)
  refine h.upd k.1.fr k.2.1 (h.rs k (fun x hx => by have := hL x hx; omega) ⟨hF.1, hF.2.1, hF.2.2.1⟩) (fun x hx _ _ => ?_) (Or.inr fun x hx => by have := hL' x hx; omega) (Or.inr fun x hx => by have := hL' x hx; omega) (Or.inr fun x hx => by have := hL' x hx; omega) (Or.inr ⟨fun hx => by have := hL' _ hx; omega, k.2.2 _ hF.2.2.2.2.2.2⟩) (Or.inr ⟨⟨fun hx => by have := hL' _ hx; omega, fun hx => by have := hL' _ hx; omega⟩, k.2.2 _ hF.2.2.2.1, k.2.2 _ hF.2.2.2.2.1, k.2.2 _ hF.2.2.2.2.2.1⟩) ⟨fun hx => by have := hL' _ hx; omega, Or.inr fun hx => by have := hL' _ hx; omega⟩ (fun hx => by have := hL' _ hx; omega) (Or.inr fun x hx => by have := hL' x hx; omega) (Or.inr fun x hx => by have := hL' x hx; omega) (fun p hp hm => ?_)
  · rcases List.mem_cons.mp hx with rfl | hx
    · exact ⟨_, k.2.1, fun g he => nomatch he⟩
    · exact hlo x hx
  · exfalso
    have h1 := hL' _ hm
    have h2 : ∀ p ∈ shL, ¬ (p.1 = 290 ∨ p.1 = 341 ∨ p.1 = 342 ∨ p.1 = 343 ∨ (374 ≤ p.1 ∧ p.1 ≤ 528) ∨ p.1 = 531) := by decide
    exact h2 p hp h1
