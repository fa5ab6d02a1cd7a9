/-! BLOCKS MADE BAD on both sides -/
theorem stL_fu {n x : Nat} {B : Nat → Bk} (hW : chW n B) : ∀ (c d b : Nat), b < n → b ≤ x + c → b ≤ x + d → stL B x c b = stL B x d b
  | 0, 0, b, _, _, _ => rfl
  | 0, d + 1, b, _, h, _ => by
    show b = (if x < b then stL B x d (bkP (B b) - 1) else b)
    rw [if_neg (by omega)]
  | c + 1, 0, b, _, _, h => by
    show (if x < b then stL B x c (bkP (B b) - 1) else b) = b
    rw [if_neg (by omega)]
  | c + 1, d + 1, b, hb, h1, h2 => by
    show (if x < b then stL B x c (bkP (B b) - 1) else b) = (if x < b then stL B x d (bkP (B b) - 1) else b)
    by_cases e : x < b
    · have hp := hW.par hb
      rw [if_pos e, if_pos e, stL_fu hW c d (bkP (B b) - 1) (by omega) (by omega) (by omega)]
    · rw [if_neg e, if_neg e]
theorem stL_up {n x b : Nat} {B : Nat → Bk} (hW : chW n B) (hb : b < n) (hx : x < b) : stL B x n b = stL B x n (bkP (B b) - 1) := by
  have hp := hW.par hb
  obtain ⟨m, rfl⟩ : ∃ m, n = m + 1 := ⟨n - 1, by omega⟩
  have e : stL B x (m + 1) b = stL B x m (bkP (B b) - 1) := by
    show (if x < b then stL B x m (bkP (B b) - 1) else b) = _
    rw [if_pos hx]
  rw [e]
  exact stL_fu hW m (m + 1) _ (by omega) (by omega) (by omega)
theorem stL_lo {n x b : Nat} {B : Nat → Bk} (h : b ≤ x) : stL B x n b = b := by
  cases n with
  | zero => rfl
  | succ n =>
    show (if x < b then stL B x n (bkP (B b) - 1) else b) = b
    rw [if_neg (by omega)]
/-- a block bad makes those above it bad -/
def chB (n : Nat) (B : Nat → Bk) : Prop := ∀ i, 0 < i → i < n → bkD (B (bkP (B i) - 1)) = true → bkD (B i) = true
def dsB (B : Nat → Bk) (n x j : Nat) : Bool := bkD (B j) || decide (stL B x n j = x)
theorem spL_k {n x : Nat} {B : Nat → Bk} (hW : chW n B) (hB : chB n B) : ∀ (u b : Nat) (D : Nat → Bool), x < b → b + u = n → (∀ j, D j = if j < b then dsB B n x j else bkD (B j)) → ∀ j, spL B u b D j = if j < n then dsB B n x j else bkD (B j)
  | 0, b, D, _, hu, h => by
    have e : b = n := by omega
    rw [← e]
    rw [← e] at h
    exact h
  | u + 1, b, D, hx, hu, h => by
    have hp := hW.2 b (by omega) (by omega)
    have hd : D (bkP (B b) - 1) = dsB B n x (bkP (B b) - 1) := by rw [h, if_pos (by omega)]
    have hs : stL B x n b = stL B x n (bkP (B b) - 1) := stL_up hW (by omega) hx
    have hb : D b = bkD (B b) := by rw [h, if_neg (by omega)]
    unfold spL
    refine spL_k hW hB u (b + 1) _ (by omega) (by omega) (fun j => ?_)
    by_cases c : D (bkP (B b) - 1) = true
    · rw [if_pos c]
      by_cases e : j = b
      · rw [e, va_up_self, if_pos (by omega)]
        rw [hd] at c
        unfold dsB at c ⊢
        rw [hs]
        rw [Bool.or_eq_true] at c
        rcases c with c | c
        · rw [hB b (by omega) (by omega) c]; rfl
        · rw [c, Bool.or_true]
      · rw [va_up_ne _ _ e, h]
        by_cases f : j < b
        · rw [if_pos f, if_pos (by omega)]
        · rw [if_neg f, if_neg (by omega)]
    · rw [if_neg c]
      by_cases e : j = b
      · rw [e, hb, if_pos (by omega)]
        rw [hd] at c
        unfold dsB at c ⊢
        rw [hs]
        rw [Bool.or_eq_true, not_or] at c
        rw [Bool.eq_false_iff.mpr c.2, Bool.or_false]
      · rw [h]
        by_cases f : j < b
        · rw [if_pos f, if_pos (by omega)]
        · rw [if_neg f, if_neg (by omega)]
theorem sp_all {n x : Nat} {B : Nat → Bk} (hW : chW n B) (hB : chB n B) (hx : x < n) (j : Nat) : spL B (n - (x + 1)) (x + 1) (va_up (fun i => bkD (B i)) x true) j = if j < n then dsB B n x j else bkD (B j) := by
  refine spL_k hW hB (n - (x + 1)) (x + 1) _ (by omega) (by omega) (fun j => ?_) j
  by_cases e : j = x
  · rw [e, va_up_self, if_pos (by omega)]
    unfold dsB
    rw [stL_lo (Nat.le_refl _), decide_eq_true rfl, Bool.or_true]
  · rw [va_up_ne _ _ e]
    by_cases f : j < x + 1
    · rw [if_pos f]
      unfold dsB
      rw [stL_lo (by omega), decide_eq_false e, Bool.or_false]
    · rw [if_neg f]
theorem sbL_D {B0 : Nat → Bk} {n x : Nat} : ∀ (u i : Nat) (B : Nat → Bk) (j : Nat), (bkN (sbL B0 n x u i B j) = bkN (B j) ∧ bkM (sbL B0 n x u i B j) = bkM (B j) ∧ bkP (sbL B0 n x u i B j) = bkP (B j) ∧ bkH (sbL B0 n x u i B j) = bkH (B j) ∧ bkW (sbL B0 n x u i B j) = bkW (B j)) ∧ bkD (sbL B0 n x u i B j) = if i ≤ j ∧ j < i + u then (bkD (B j) || decide (stL B0 x n j = x)) else bkD (B j)
  | 0, i, B, j => ⟨⟨rfl, rfl, rfl, rfl, rfl⟩, by
    rw [if_neg (by omega)]
    rfl⟩
  | u + 1, i, B, j => by
    obtain ⟨⟨q1, q2, q3, q4, q5⟩, q6⟩ := sbL_D (B0 := B0) (n := n) (x := x) u (i + 1) (va_up B i (bD (B i) (bkD (B i) || decide (stL B0 x n i = x)))) j
    unfold sbL
    rw [q1, q2, q3, q4, q5, q6]
    by_cases c : j = i
    · rw [c, va_up_self, if_neg (by omega), if_pos (by omega)]
      exact ⟨⟨rfl, rfl, rfl, rfl, rfl⟩, rfl⟩
    · rw [va_up_ne _ _ c]
      refine ⟨⟨rfl, rfl, rfl, rfl, rfl⟩, ?_⟩
      by_cases d : i + 1 ≤ j ∧ j < i + 1 + u
      · rw [if_pos d, if_pos (by omega)]
      · rw [if_neg d, if_neg (by omega)]
