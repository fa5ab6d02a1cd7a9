/-! THE REFERENCE: parse -/
theorem rc12 {g : Nat → Nat} {n v q : Nat} (h : rc g 80 n 12 = some (v, q)) : 80 < n ∧ g 80 ≤ 12 ∧ v = g 80 ∧ q = 81 := by
  unfold rc at h
  split at h
  · cases h
  · split at h
    · split at h
      · cases h; omega
      · cases h
    · split at h
      · next e => omega
      · cases h
theorem rc12n {g : Nat → Nat} {n : Nat} (h : rc g 80 n 12 = none) : blk_ g n = false := by
  refine decide_eq_false (fun q => ?_)
  unfold rc at h
  rw [if_neg (by omega), if_pos (by omega), if_pos q.2.1] at h
  cases h
/-- the rows of a transaction of a block -/
def prT (g : Nat → Nat) (n : Nat) (A : Nat → Nat → Nat) (gi : Nat → Nat) (j : Nat) : Prop := ∃ k q m u e, bs_ g n j = some (A 0 j) ∧ tx_ g (A 0 j) n = some (k, q, m, u, e) ∧ A 1 j = e ∧ A 2 j = k ∧ A 3 j = m ∧ A 4 j = q ∧ A 5 j = u ∧ ∀ x, x < 32 → gi (32 * j + x) = twice_ (fun z => g (A 0 j + z)) (e - A 0 j) x
/-- what parse leaves -/
def prE (S S' : ks_S) (V : Nat → Value) (P y n : Nat) (g : Nat → Nat) : Prop := ks_up S S' (LPr P) ∧ (∃ V', S'.2.2 290 = some (rfE V') ∧ ∀ k, k < 36 ∨ 39 < k → V' k = V k) ∧ mhR S' ∧ (∃ g5, kO g5 ∧ S'.2.2 305 = some (kB 32 g5)) ∧ ∃ c A gi, prX S' P y c A gi ∧ (blk_ g n = true → c = g 80 ∧ ∀ j, j < c → prT g n A gi j)
set_option maxRecDepth 100000 in
set_option maxHeartbeats 800000 in
theorem l_pLoop {l : Launch} {G : ks_G} {d : Nat} {S0 : ks_S} {V0 : Nat → Value} {y N n P c : Nat} {g : Nat → Nat} (kg : kO g) (hnN : n ≤ N) (hN : N < 2 ^ 16) (hP6 : 306 ≤ P) (hPB : P + 9 < ks_B) (hy0 : S0.2.2 y = some (kB N g)) (hy9 : 306 ≤ y ∧ (y < P ∨ P + 7 < y)) (hc12 : c ≤ 12) (h80 : 80 < n) (hcg : c = g 80) : ∀ (u t : Nat) (S : ks_S) (V : Nat → Value) (p : Nat) (A : Nat → Nat → Nat) (gi g5 : Nat → Nat), t + u = c → ks_up S0 S (LPr P) → (∀ k, k < 36 ∨ 39 < k → V k = V0 k) → psO S V y n p false → mhR S → S.2.2 305 = some (kB 32 g5) → kO g5 → prX S P y c A gi → bs_ g n t = some p → (∀ j, j < t → prT g n A gi j) → ks_X l G mX16_parse (d + 4) 84 [(0, .ref 290), (1, .ref y), (2, .int (nI n)), (3, .ref P), (6, .int (nI t))] [] S (fun z S' => z = some (.int (ks_bo (blk_ g n))) ∧ prE S0 S' V0 P y n g) := by
  intro u
  induction u with
  | zero =>
    intro t S V p A gi g5 hq hu hV O hM i5 k5 X hb hT
    obtain rfl : t = c := hq
    have P0 := X.1
    have pn := O.2.2.2.2.2
    refine ks_iload dX16_parse_84 rfl rfl ?_
    refine ks_aload_n dX16_parse_86 rfl rfl ?_
    refine ks_getN (T := TX13) (kf := 1) kx_1814 rfl in_X13 cl_X13 (by decide) P0 rfl dX16_parse_87 rfl ?_
    refine ks_icmp_geN (tgt := 405) (by omega) (by omega) dX16_parse_90 (by decide) rfl (fun h1 => ?_) (fun h1 => absurd h1 (by omega))
    refine ks_aload_n dX16_parse_405 rfl rfl ?_
    refine ks_getf (T := TX16) (kf := 36) kx_2404 rfl in_X16 cl_X16 (by decide) O.1 rfl dX16_parse_406 rfl ?_
    refine ks_tv O.2.1 ?_
    refine ks_iload_n dX16_parse_409 rfl rfl ?_
    refine ks_icmp_neN (tgt := 417) (by omega) (by omega) dX16_parse_410 (by decide) rfl (fun h2 => ?_) (fun h2 => ?_)
    · refine ks_iconst (x := nI 0) dX16_parse_417 (by decide) rfl ?_
      refine ks_zret rfl rfl dX16_parse_418 ?_
      have e0 : blk_ g n = false := decide_eq_false (fun h => by have h3 := h.2.2; rw [← hcg, hb] at h3; exact absurd (Option.some.inj h3) (by omega))
      rw [e0]
      exact ⟨rfl, hu, ⟨V, O.1, hV⟩, hM, ⟨g5, k5, i5⟩, t, A, gi, X, fun _ => ⟨hcg, hT⟩⟩
    · refine ks_iconst (x := nI 1) dX16_parse_413 (by decide) rfl ?_
      refine ks_goto (tgt := 418) dX16_parse_414 (by decide) ?_
      refine ks_zret rfl rfl dX16_parse_418 ?_
      have e0 : blk_ g n = true := decide_eq_true ⟨h80, by omega, by rw [← hcg, hb]; exact congrArg some (by omega)⟩
      rw [e0]
      exact ⟨rfl, hu, ⟨V, O.1, hV⟩, hM, ⟨g5, k5, i5⟩, t, A, gi, X, fun _ => ⟨hcg, hT⟩⟩
  | succ u ih =>
    intro t S V p A gi g5 hq hu hV O hM i5 k5 X hb hT
    refine l_pOne kg hnN hN hP6 hPB (hu.at hy0 (by unfold LPr; simp only [List.mem_cons, List.not_mem_nil, or_false]; omega)) hy9 (by omega) hc12 O X hM i5 k5 ?_ ?_
    · intro S' V' k q m w e A' gi' a1 a2 a3 a4 a5 a6 a7 e0 e1 e2 e3 e4 e5 e6
      obtain ⟨g6, k6, i6⟩ := a5
      have hb1 : bs_ g n (t + 1) = some e := by simp only [bs_, hb, a6]
      refine ih (t + 1) S' V' e A' gi' g6 (by omega) (hu.trans a1) (fun k hk => (a3 k (by omega) (by omega)).trans (hV k hk)) a2 a4 i6 k6 a7 hb1 (fun j hj => ?_)
      by_cases ej : j = t
      · subst ej
        have z0 : A' 0 j = p := by rw [e0]; exact va_up_self _ _ _
        refine ⟨k, q, m, w, e, ?_, ?_, ?_, ?_, ?_, ?_, ?_, fun x hx => ?_⟩
        · rw [z0]; exact hb
        · rw [z0]; exact a6
        · rw [e1]; exact va_up_self _ _ _
        · rw [e2]; exact va_up_self _ _ _
        · rw [e3]; exact va_up_self _ _ _
        · rw [e4]; exact va_up_self _ _ _
        · rw [e5]; exact va_up_self _ _ _
        · rw [e6, z0]; exact ks_pt_in _ _ _ _ hx
      · obtain ⟨k1, q1, m1, u1, e1', b1, b2, b3, b4, b5, b6, b7, b8⟩ := hT j (by omega)
        have z0 : A' 0 j = A 0 j := by rw [e0]; exact va_up_ne _ _ ej
        refine ⟨k1, q1, m1, u1, e1', ?_, ?_, ?_, ?_, ?_, ?_, ?_, fun x hx => ?_⟩
        · rw [z0]; exact b1
        · rw [z0]; exact b2
        · rw [e1, va_up_ne _ _ ej]; exact b3
        · rw [e2, va_up_ne _ _ ej]; exact b4
        · rw [e3, va_up_ne _ _ ej]; exact b5
        · rw [e4, va_up_ne _ _ ej]; exact b6
        · rw [e5, va_up_ne _ _ ej]; exact b7
        · rw [e6, z0, ← b8 x hx]
          unfold ks_pt
          rw [if_neg (by omega)]
    · intro S' a1 a2
      have hn := bs_n hb a2 c (by omega)
      have e0 : blk_ g n = false := decide_eq_false (fun h => by have h3 := h.2.2; rw [← hcg, hn] at h3; cases h3)
      rw [e0]
      obtain ⟨b1, ⟨V', b2, b3⟩, b4, b5, A', gi', b6⟩ := a1
      exact ⟨rfl, hu.trans b1, ⟨V', b2, fun k hk => (b3 k (by omega) (by omega)).trans (hV k hk)⟩, b4, b5, c, A', gi', b6, fun h => absurd (e0 ▸ h) (by decide)⟩
