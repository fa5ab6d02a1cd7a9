/-! THE REFERENCE as a whole, between calls -/
def rqW (S : ks_S) (V : Nat → Value) (F : Nat) (Gp : Pt) : Prop := mqB S V F Gp ∧ rwS S ∧ pjS S ∧ asR S ∧ sgR S V Gp ∧ (∃ g, kO g ∧ S.2.2 354 = some (kB 32 g)) ∧ (∃ f, S.2.2 360 = some (kN 61 f)) ∧ ∃ g, kO g ∧ S.2.2 533 = some (kB 65 g)
def no52 (e : ks_E) : Bool := match e with
  | .inl (t, n, _) => !(t == 0 && n == 520)
  | .inr _ => true
theorem no52_ne {e : ks_E} (h : no52 e = true) : ∀ g, e ≠ kB 520 g := fun g he => by
  rw [he] at h
  exact absurd h (by show ¬ ((!((0 : Nat) == 0 && (520 : Nat) == 520)) = true); decide)
theorem icK_no : ∀ a, a < 545 → 291 ≤ a → no52 (icK a) = true := by decide +kernel
theorem cntN_all (n : Nat) : cntN (fun _ => true) n = n := by
  induction n with
  | zero => rfl
  | succ n ih => show cntN (fun _ => true) n + 1 = n + 1; rw [ih]
theorem fX_z8 {S : ks_S} {a : Nat} (h : S.2.2 a = some (kN 8 (fun _ => 0))) : fX S a 0 := ⟨by rw [Nat.zero_mul, Nat.zero_mod]; exact wA_z8 h, by decide⟩
def gpG : Pt := (gXX, gYY, 1)
def icP : Nat → Nat := fun k => if k = 308 then gXX else if k = 309 then gYY else if k = 310 then 1 else 0
set_option maxRecDepth 100000 in
set_option maxHeartbeats 1600000 in
theorem rq_of {S0 S : ks_S} (h : icZ S0 S icV) (hlow : ∀ x, x < 290 → ∃ e, S0.2.2 x = some e ∧ ∀ g, e ≠ kB 520 g) (hnw : ∀ a, 291 ≤ a → a < ks_B → S0.2.2 a = none) : rqW S icV 3006 gpG ∧ (∀ D, rdS S 0 D) ∧ buX S icV 531 1600 110 [] ∧ nwS S ∧ S.2.2 341 = some (kA 7 61 (fun _ => none)) ∧ S.2.2 342 = some (kN 512 (fun _ => 0)) ∧ S.2.2 343 = some (kN 2300 (fun _ => 0)) := by
  obtain ⟨⟨h1, h2, h3, h4, h5, ⟨h6, h61, h62⟩, h7, h8, ⟨f9, h9⟩, ⟨fA, hA⟩, fB, hB⟩, r7, x306, x308, x309, x310, x337⟩ := h
  have k0 : kO (fun _ => 0) := fun _ => by decide
  have hkB : 100000 < ks_B := by unfold ks_B; decide
  have nw : nwS S := fun a g1 g2 => by
    rw [h1] at g1
    rw [h5 a (Or.inr g1)]
    exact hnw a (by omega) g2
  have mh : mhR S := ⟨⟨fun _ => 0, k0, (h4 291 (by decide) (by decide) (by decide) : S.2.2 291 = some (kB 128 (fun _ => 0)))⟩, ⟨_, (h4 292 (by decide) (by decide) (by decide) : S.2.2 292 = some (kN 8 (fun _ => 0)))⟩, ⟨_, (h4 293 (by decide) (by decide) (by decide) : S.2.2 293 = some (kN 64 (fun _ => 0)))⟩, h7, h8, ⟨_, (h4 299 (by decide) (by decide) (by decide) : S.2.2 299 = some (kN 8 (fun _ => 0)))⟩⟩
  have mr : mrR S := ⟨(h4 300 (by decide) (by decide) (by decide) : S.2.2 300 = some (kI 160 (ks_row st_RIPE_ORDER))), (h4 301 (by decide) (by decide) (by decide) : S.2.2 301 = some (kI 160 (ks_row st_RIPE_TURNS))), (h4 302 (by decide) (by decide) (by decide) : S.2.2 302 = some (kI 10 (ks_row st_RIPE_WORDS))), ⟨_, (h4 303 (by decide) (by decide) (by decide) : S.2.2 303 = some (kN 5 (fun _ => 0)))⟩, ⟨_, (h4 304 (by decide) (by decide) (by decide) : S.2.2 304 = some (kN 5 (fun _ => 0)))⟩⟩
  have b305 : ∃ g, kO g ∧ S.2.2 305 = some (kB 32 g) := ⟨fun _ => 0, k0, (h4 305 (by decide) (by decide) (by decide) : S.2.2 305 = some (kB 32 (fun _ => 0)))⟩
  have b336 : ∃ g, kO g ∧ S.2.2 336 = some (kB 32 g) := ⟨fun _ => 0, k0, (h4 336 (by decide) (by decide) (by decide) : S.2.2 336 = some (kB 32 (fun _ => 0)))⟩
  have b370 : ∃ g, kO g ∧ S.2.2 370 = some (kB 32 g) := ⟨fun _ => 0, k0, (h4 370 (by decide) (by decide) (by decide) : S.2.2 370 = some (kB 32 (fun _ => 0)))⟩
  have b354 : ∃ g, kO g ∧ S.2.2 354 = some (kB 32 g) := ⟨fun _ => 0, k0, (h4 354 (by decide) (by decide) (by decide) : S.2.2 354 = some (kB 32 (fun _ => 0)))⟩
  have b357 : ∃ g, kO g ∧ S.2.2 357 = some (kB 32 g) := ⟨fun _ => 0, k0, (h4 357 (by decide) (by decide) (by decide) : S.2.2 357 = some (kB 32 (fun _ => 0)))⟩
  have b355 : ∃ g, kO g ∧ S.2.2 355 = some (kB 416 g) := ⟨fun _ => 0, k0, (h4 355 (by decide) (by decide) (by decide) : S.2.2 355 = some (kB 416 (fun _ => 0)))⟩
  have b356 : ∃ g, kO g ∧ S.2.2 356 = some (kB 64 g) := ⟨fun _ => 0, k0, (h4 356 (by decide) (by decide) (by decide) : S.2.2 356 = some (kB 64 (fun _ => 0)))⟩
  have b529 : ∃ g, kO g ∧ S.2.2 529 = some (kB 72 g) := ⟨fun _ => 0, k0, (h4 529 (by decide) (by decide) (by decide) : S.2.2 529 = some (kB 72 (fun _ => 0)))⟩
  have b530 : ∃ g, kO g ∧ S.2.2 530 = some (kB 384 g) := ⟨fun _ => 0, k0, (h4 530 (by decide) (by decide) (by decide) : S.2.2 530 = some (kB 384 (fun _ => 0)))⟩
  have b542 : ∃ g, kO g ∧ S.2.2 542 = some (kB 80 g) := ⟨fun _ => 0, k0, (h4 542 (by decide) (by decide) (by decide) : S.2.2 542 = some (kB 80 (fun _ => 0)))⟩
  have b543 : ∃ g, kO g ∧ S.2.2 543 = some (kB 32 g) := ⟨fun _ => 0, k0, (h4 543 (by decide) (by decide) (by decide) : S.2.2 543 = some (kB 32 (fun _ => 0)))⟩
  have b544 : ∃ g, kO g ∧ S.2.2 544 = some (kB 64 g) := ⟨fun _ => 0, k0, (h4 544 (by decide) (by decide) (by decide) : S.2.2 544 = some (kB 64 (fun _ => 0)))⟩
  have b533 : ∃ g, kO g ∧ S.2.2 533 = some (kB 65 g) := ⟨fun _ => 0, k0, (h4 533 (by decide) (by decide) (by decide) : S.2.2 533 = some (kB 65 (fun _ => 0)))⟩
  have bs : buX S icV 373 16384 91 [] := ⟨rfl, fun _ => 0, (h4 373 (by decide) (by decide) (by decide) : S.2.2 373 = some (kB 16384 (fun _ => 0))), k0, Nat.zero_le _, rfl⟩
  have bt : buX S icV 531 1600 110 [] := ⟨rfl, fun _ => 0, (h4 531 (by decide) (by decide) (by decide) : S.2.2 531 = some (kB 1600 (fun _ => 0))), k0, Nat.zero_le _, rfl⟩
  have ct : ctX S icV [] := ⟨371, 372, fun _ => 0, fun _ => 0, Or.inl ⟨rfl, rfl⟩, rfl, rfl, (h4 371 (by decide) (by decide) (by decide) : S.2.2 371 = some (kB 1700 (fun _ => 0))), k0, (h4 372 (by decide) (by decide) (by decide) : S.2.2 372 = some (kB 1700 (fun _ => 0))), k0, rfl, Nat.zero_le _, rfl⟩
  have cv : cvR S icP := by
    refine ⟨r7, fun k hk => ?_, (h4 307 (by decide) (by decide) (by decide) : S.2.2 307 = some (.inr (17, [.ref 308, .ref 309, .ref 310]))), (h4 311 (by decide) (by decide) (by decide) : S.2.2 311 = some (.inr (17, [.ref 312, .ref 313, .ref 314]))), (h4 315 (by decide) (by decide) (by decide) : S.2.2 315 = some (.inr (17, [.ref 316, .ref 317, .ref 318]))), (h4 319 (by decide) (by decide) (by decide) : S.2.2 319 = some (.inr (17, [.ref 320, .ref 321, .ref 322])))⟩
    simp only [rwL, List.mem_cons, List.not_mem_nil, or_false] at hk
    rcases hk with rfl | rfl | rfl | rfl | rfl | rfl | rfl | rfl | rfl | rfl | rfl | rfl | rfl | rfl | rfl | rfl | rfl | rfl
    · exact x308
    · exact x309
    · exact x310
    · exact fX_z8 (h4 312 (by decide) (by decide) (by decide) : S.2.2 312 = some (kN 8 (fun _ => 0)))
    · exact fX_z8 (h4 313 (by decide) (by decide) (by decide) : S.2.2 313 = some (kN 8 (fun _ => 0)))
    · exact fX_z8 (h4 314 (by decide) (by decide) (by decide) : S.2.2 314 = some (kN 8 (fun _ => 0)))
    · exact fX_z8 (h4 316 (by decide) (by decide) (by decide) : S.2.2 316 = some (kN 8 (fun _ => 0)))
    · exact fX_z8 (h4 317 (by decide) (by decide) (by decide) : S.2.2 317 = some (kN 8 (fun _ => 0)))
    · exact fX_z8 (h4 318 (by decide) (by decide) (by decide) : S.2.2 318 = some (kN 8 (fun _ => 0)))
    · exact fX_z8 (h4 320 (by decide) (by decide) (by decide) : S.2.2 320 = some (kN 8 (fun _ => 0)))
    · exact fX_z8 (h4 321 (by decide) (by decide) (by decide) : S.2.2 321 = some (kN 8 (fun _ => 0)))
    · exact fX_z8 (h4 322 (by decide) (by decide) (by decide) : S.2.2 322 = some (kN 8 (fun _ => 0)))
    · exact fX_z8 (h4 323 (by decide) (by decide) (by decide) : S.2.2 323 = some (kN 8 (fun _ => 0)))
    · exact fX_z8 (h4 324 (by decide) (by decide) (by decide) : S.2.2 324 = some (kN 8 (fun _ => 0)))
    · exact fX_z8 (h4 325 (by decide) (by decide) (by decide) : S.2.2 325 = some (kN 8 (fun _ => 0)))
    · exact fX_z8 (h4 326 (by decide) (by decide) (by decide) : S.2.2 326 = some (kN 8 (fun _ => 0)))
    · exact fX_z8 (h4 327 (by decide) (by decide) (by decide) : S.2.2 327 = some (kN 8 (fun _ => 0)))
    · exact fX_z8 (h4 328 (by decide) (by decide) (by decide) : S.2.2 328 = some (kN 8 (fun _ => 0)))
  have ex : exW S := fun k g1 g2 => by
    have hk : k = 329 ∨ k = 330 ∨ k = 331 ∨ k = 332 ∨ k = 333 ∨ k = 334 ∨ k = 335 := by omega
    rcases hk with rfl | rfl | rfl | rfl | rfl | rfl | rfl
    · exact ⟨0, wA_z8 (h4 329 (by decide) (by decide) (by decide) : S.2.2 329 = some (kN 8 (fun _ => 0)))⟩
    · exact ⟨0, wA_z8 (h4 330 (by decide) (by decide) (by decide) : S.2.2 330 = some (kN 8 (fun _ => 0)))⟩
    · exact ⟨0, wA_z8 (h4 331 (by decide) (by decide) (by decide) : S.2.2 331 = some (kN 8 (fun _ => 0)))⟩
    · exact ⟨0, wA_z8 (h4 332 (by decide) (by decide) (by decide) : S.2.2 332 = some (kN 8 (fun _ => 0)))⟩
    · exact ⟨0, wA_z8 (h4 333 (by decide) (by decide) (by decide) : S.2.2 333 = some (kN 8 (fun _ => 0)))⟩
    · exact ⟨0, wA_z8 (h4 334 (by decide) (by decide) (by decide) : S.2.2 334 = some (kN 8 (fun _ => 0)))⟩
    · exact ⟨0, wA_z8 (h4 335 (by decide) (by decide) (by decide) : S.2.2 335 = some (kN 8 (fun _ => 0)))⟩
  have cc : ccS S gpG := ⟨⟨icP, cv, rfl⟩, h6, x306, ex⟩
  have rs : rsQ S icV 3006 [] [] (fun _ => none, []) := by
    have hfr : frT (fun _ _ => none) = 3006 := cntN_all 3006
    refine ⟨fun _ _ => none, fun _ => 0, fun _ => 0, fun _ => 0, ⟨⟨fun a ha => ?_, fun a i b j r e => (nomatch e), fun a i r e => (nomatch e), nw, by rw [h1, hfr]; omega⟩, ⟨(h4 362 (by decide) (by decide) (by decide) : S.2.2 362 = some (kN 1002 (fun _ => 0))), (h4 364 (by decide) (by decide) (by decide) : S.2.2 364 = some (kN 1002 (fun _ => 0))), (h4 366 (by decide) (by decide) (by decide) : S.2.2 366 = some (kN 1002 (fun _ => 0)))⟩, ⟨rfl, rfl, rfl⟩, ⟨Nat.zero_le _, Nat.zero_le _, Nat.zero_le _⟩, fun i hi => absurd hi (Nat.not_lt_zero _), fun i hi => absurd hi (Nat.not_lt_zero _), fun i hi => absurd hi (Nat.not_lt_zero _), rfl⟩, hfr, ⟨fun _ => 0, k0, (h4 367 (by decide) (by decide) (by decide) : S.2.2 367 = some (kB 9 (fun _ => 0)))⟩⟩
    have : a = 0 ∨ a = 1 ∨ a = 2 := by omega
    rcases this with rfl | rfl | rfl
    · exact (h4 361 (by decide) (by decide) (by decide) : S.2.2 361 = some (kA 4 1002 (fun _ => none)))
    · exact (h4 363 (by decide) (by decide) (by decide) : S.2.2 363 = some (kA 4 1002 (fun _ => none)))
    · exact (h4 365 (by decide) (by decide) (by decide) : S.2.2 365 = some (kA 4 1002 (fun _ => none)))
  have low : lowS S := fun x hx => by
    rcases Nat.lt_trichotomy x 290 with g | g | g
    · rw [h5 x (Or.inl g)]
      exact hlow x g
    · rw [g]
      exact ⟨_, h3, fun g he => nomatch he⟩
    · by_cases c1 : x < 545
      · by_cases c2 : x ∈ icE
        · simp only [icE, List.mem_cons, List.not_mem_nil, or_false] at c2
          rcases c2 with rfl | rfl | rfl | rfl | rfl | rfl | rfl | rfl | rfl | rfl
          · exact ⟨_, h7, no52_ne rfl⟩
          · exact ⟨_, h8, no52_ne rfl⟩
          · exact ⟨_, h9, no52_ne rfl⟩
          · exact ⟨_, hA, no52_ne rfl⟩
          · exact ⟨_, hB, no52_ne rfl⟩
          · exact ⟨_, x306.1.choose_spec.1, no52_ne rfl⟩
          · exact ⟨_, x308.1.choose_spec.1, no52_ne rfl⟩
          · exact ⟨_, x309.1.choose_spec.1, no52_ne rfl⟩
          · exact ⟨_, x310.1.choose_spec.1, no52_ne rfl⟩
          · exact ⟨_, x337.choose_spec.1, no52_ne rfl⟩
        · exact ⟨_, h4 x (by omega) c1 c2, no52_ne (icK_no x c1 (by omega))⟩
      · obtain ⟨⟨a1, a2, ⟨ga, a3, _⟩, _⟩, a4, a5, a6, ⟨_, a7⟩, _, a8⟩ := r7
        obtain ⟨⟨b1, b2, ⟨gb, b3, _⟩, _⟩, b4, b5, b6, ⟨_, b7⟩, _, b8⟩ := h6
        have hk : x = 545 ∨ x = 546 ∨ x = 547 ∨ x = 548 ∨ x = 549 ∨ x = 550 ∨ x = 551 ∨ x = 552 ∨ x = 553 ∨ x = 554 ∨ x = 555 ∨ x = 556 ∨ x = 557 ∨ x = 558 ∨ x = 559 ∨ x = 560 ∨ x = 561 ∨ x = 562 := by omega
        rcases hk with rfl | rfl | rfl | rfl | rfl | rfl | rfl | rfl | rfl | rfl | rfl | rfl | rfl | rfl | rfl | rfl | rfl | rfl
        · exact ⟨_, h61.choose_spec.1, no52_ne rfl⟩
        · exact ⟨_, h62.choose_spec.1, no52_ne rfl⟩
        · exact ⟨_, a1, no52_ne rfl⟩
        · exact ⟨_, a2.choose_spec.1, no52_ne rfl⟩
        · exact ⟨_, a4.choose_spec.1, no52_ne rfl⟩
        · exact ⟨_, a5.choose_spec.1, no52_ne rfl⟩
        · exact ⟨_, a6.choose_spec.1, no52_ne rfl⟩
        · exact ⟨_, a3, no52_ne rfl⟩
        · exact ⟨_, a7.choose_spec.1, no52_ne rfl⟩
        · exact ⟨_, a8.choose_spec.1, no52_ne rfl⟩
        · exact ⟨_, b1, no52_ne rfl⟩
        · exact ⟨_, b2.choose_spec.1, no52_ne rfl⟩
        · exact ⟨_, b4.choose_spec.1, no52_ne rfl⟩
        · exact ⟨_, b5.choose_spec.1, no52_ne rfl⟩
        · exact ⟨_, b6.choose_spec.1, no52_ne rfl⟩
        · exact ⟨_, b3, no52_ne rfl⟩
        · exact ⟨_, b7.choose_spec.1, no52_ne rfl⟩
        · exact ⟨_, b8.choose_spec.1, no52_ne rfl⟩
  have mq : mqB S icV 3006 gpG := ⟨[], [], (fun _ => none, []), h3, rs, ⟨⟨mh, b305⟩, b336, ⟨[], bs⟩, ⟨[], ct⟩, cc⟩, ⟨mh, mr, b305, b370⟩, (h4 369 (by decide) (by decide) (by decide) : S.2.2 369 = some (kN 21 nedR)), low, ⟨_, (h4 368 (by decide) (by decide) (by decide) : S.2.2 368 = some (kZ 1601 (fun _ => false)))⟩⟩
  have rw1 : rwS S := ⟨⟨mh, b305⟩, x337, ⟨0, wA_z8 (h4 338 (by decide) (by decide) (by decide) : S.2.2 338 = some (kN 8 (fun _ => 0)))⟩, ⟨0, wA_z8 (h4 339 (by decide) (by decide) (by decide) : S.2.2 339 = some (kN 8 (fun _ => 0)))⟩, ⟨0, wA_z8 (h4 340 (by decide) (by decide) (by decide) : S.2.2 340 = some (kN 8 (fun _ => 0)))⟩, ⟨_, (h4 344 (by decide) (by decide) (by decide) : S.2.2 344 = some (kL 11 (fun _ => 0)))⟩, ⟨_, (h4 345 (by decide) (by decide) (by decide) : S.2.2 345 = some (kN 10 (fun _ => 0)))⟩, b355, b356, b357, ⟨0, wA_z8 (h4 358 (by decide) (by decide) (by decide) : S.2.2 358 = some (kN 8 (fun _ => 0)))⟩, ⟨0, wA_z8 (h4 359 (by decide) (by decide) (by decide) : S.2.2 359 = some (kN 8 (fun _ => 0)))⟩⟩
  have pj : pjS S := by
    refine ⟨.null, 0, fun _ _ => 0, fun _ => 0, (h4 346 (by decide) (by decide) (by decide) : S.2.2 346 = some (.inr (16, [.null, .int (nI 0), .ref 347, .ref 348, .ref 349, .ref 350, .ref 351, .ref 352, .ref 353]))), fun r hr => ?_, (h4 353 (by decide) (by decide) (by decide) : S.2.2 353 = some (kB 384 (fun _ => 0))), k0⟩
    have : r = 0 ∨ r = 1 ∨ r = 2 ∨ r = 3 ∨ r = 4 ∨ r = 5 := by omega
    rcases this with rfl | rfl | rfl | rfl | rfl | rfl
    · exact (h4 347 (by decide) (by decide) (by decide) : S.2.2 347 = some (kN 12 (fun _ => 0)))
    · exact (h4 348 (by decide) (by decide) (by decide) : S.2.2 348 = some (kN 12 (fun _ => 0)))
    · exact (h4 349 (by decide) (by decide) (by decide) : S.2.2 349 = some (kN 12 (fun _ => 0)))
    · exact (h4 350 (by decide) (by decide) (by decide) : S.2.2 350 = some (kN 12 (fun _ => 0)))
    · exact (h4 351 (by decide) (by decide) (by decide) : S.2.2 351 = some (kN 12 (fun _ => 0)))
    · exact (h4 352 (by decide) (by decide) (by decide) : S.2.2 352 = some (kN 12 (fun _ => 0)))
  have as : asR S := ⟨mh, b305, b529, b530, b355, b356, b357, ⟨0, wA_z8 (h4 338 (by decide) (by decide) (by decide) : S.2.2 338 = some (kN 8 (fun _ => 0)))⟩, ⟨_, (h4 345 (by decide) (by decide) (by decide) : S.2.2 345 = some (kN 10 (fun _ => 0)))⟩, ⟨0, wA_z8 (h4 532 (by decide) (by decide) (by decide) : S.2.2 532 = some (kN 8 (fun _ => 0)))⟩, b370, ⟨0, wA_z8 (h4 359 (by decide) (by decide) (by decide) : S.2.2 359 = some (kN 8 (fun _ => 0)))⟩⟩
  have dp : dpS S := by
    refine ⟨⟨.null, (h4 534 (by decide) (by decide) (by decide) : S.2.2 534 = some (.inr (16, [.null, .int (nI 0), .ref 535, .ref 536, .ref 537, .ref 538, .ref 539, .ref 540, .ref 541])))⟩, fun r hr => ?_⟩
    have : r = 0 ∨ r = 1 ∨ r = 2 ∨ r = 3 ∨ r = 4 ∨ r = 5 := by omega
    rcases this with rfl | rfl | rfl | rfl | rfl | rfl
    · exact ⟨_, (h4 535 (by decide) (by decide) (by decide) : S.2.2 535 = some (kN 12 (fun _ => 0)))⟩
    · exact ⟨_, (h4 536 (by decide) (by decide) (by decide) : S.2.2 536 = some (kN 12 (fun _ => 0)))⟩
    · exact ⟨_, (h4 537 (by decide) (by decide) (by decide) : S.2.2 537 = some (kN 12 (fun _ => 0)))⟩
    · exact ⟨_, (h4 538 (by decide) (by decide) (by decide) : S.2.2 538 = some (kN 12 (fun _ => 0)))⟩
    · exact ⟨_, (h4 539 (by decide) (by decide) (by decide) : S.2.2 539 = some (kN 12 (fun _ => 0)))⟩
    · exact ⟨_, (h4 540 (by decide) (by decide) (by decide) : S.2.2 540 = some (kN 12 (fun _ => 0)))⟩
  have sg : sgR S icV gpG := ⟨b529, dp, ⟨[], ct⟩, mh, b305, b336, ⟨[], bs⟩, cc, b544, b542, b543⟩
  refine ⟨⟨mq, rw1, pj, as, sg, b354, ⟨_, (h4 360 (by decide) (by decide) (by decide) : S.2.2 360 = some (kN 61 (fun _ => 0)))⟩, b533⟩, fun D => ⟨Nat.zero_le _, fun _ => lN 0, fun _ => lN 0, fun _ => 0, fun _ => 0, fun _ => 0, fun _ => nI 0, fun _ => lN 0, fun _ => 0, fun _ => lN 0, fun _ => 0, fun _ _ => 0, fun _ _ => 0, ⟨⟨(h4 374 (by decide) (by decide) (by decide) : S.2.2 374 = some (kL 12 (fun _ => 0))), (h4 375 (by decide) (by decide) (by decide) : S.2.2 375 = some (kL 12 (fun _ => 0))), (h4 376 (by decide) (by decide) (by decide) : S.2.2 376 = some (kN 12 (fun _ => 0))), (h4 377 (by decide) (by decide) (by decide) : S.2.2 377 = some (kN 12 (fun _ => 0)))⟩, ⟨(h4 378 (by decide) (by decide) (by decide) : S.2.2 378 = some (kB 2592 (fun _ => 0))), k0⟩, ⟨(h4 379 (by decide) (by decide) (by decide) : S.2.2 379 = some (kL 72 (fun _ => 0))), (h4 453 (by decide) (by decide) (by decide) : S.2.2 453 = some (kN 72 (fun _ => 0))), (h4 454 (by decide) (by decide) (by decide) : S.2.2 454 = some (kL 72 (fun _ => 0))), (h4 528 (by decide) (by decide) (by decide) : S.2.2 528 = some (kN 72 (fun _ => 0)))⟩, ⟨(h4 380 (by decide) (by decide) (by decide) : S.2.2 380 = some (kA 4 72 (fun i => if i < 72 then some (380 + 1 + i) else none))), (h4 455 (by decide) (by decide) (by decide) : S.2.2 455 = some (kA 4 72 (fun i => if i < 72 then some (455 + 1 + i) else none)))⟩, fun r hr => ?_, fun _ => k0, fun r hr => ?_, fun _ => k0, fun r hr => rfl⟩, fun i hi => absurd hi (Nat.not_lt_zero _)⟩, bt, nw, (h4 341 (by decide) (by decide) (by decide) : S.2.2 341 = some (kA 7 61 (fun _ => none))), (h4 342 (by decide) (by decide) (by decide) : S.2.2 342 = some (kN 512 (fun _ => 0))), (h4 343 (by decide) (by decide) (by decide) : S.2.2 343 = some (kN 2300 (fun _ => 0)))⟩
  · rw [← icK_r (381 + r) (by omega)]
    exact h4 (381 + r) (by omega) (by omega) (by simp only [icE, List.mem_cons, List.not_mem_nil, or_false]; omega)
  · rw [← icK_r (456 + r) (by omega)]
    exact h4 (456 + r) (by omega) (by omega) (by simp only [icE, List.mem_cons, List.not_mem_nil, or_false]; omega)
