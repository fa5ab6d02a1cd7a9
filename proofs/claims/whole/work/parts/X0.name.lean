/-! CONNECTING does not look at names -/
theorem fiP_n (B : Nat → Bk) : fiP B = fiP (nB B) := rfl
theorem ukM_n (B : Nat → Bk) : ukM B = ukM (nB B) := rfl
theorem fcF_n (B : Nat → Bk) : fcF B = fcF (nB B) := by
  funext M t h R u
  induction u with
  | zero => rfl
  | succ u ih =>
    funext i s
    unfold fcF
    rw [ih]
    rfl
theorem adC_n (B : Nat → Bk) : adC B = adC (nB B) := by
  funext b t u
  induction u with
  | zero => rfl
  | succ u ih =>
    funext o R
    unfold adC
    rw [ih]
    rfl
theorem cnF_n (B : Nat → Bk) : cnF B = cnF (nB B) := by
  funext M b h u
  induction u with
  | zero => rfl
  | succ u ih =>
    funext t R left
    unfold cnF
    rw [ih, adC_n B, fcF_n B]
    rfl
/-- the same blocks but for names -/
def smN (B B' : Nat → Bk) : Prop := ∀ i, bkM (B' i) = bkM (B i) ∧ bkP (B' i) = bkP (B i) ∧ bkH (B' i) = bkH (B i) ∧ (bkC (B' i)).map Prod.snd = (bkC (B i)).map Prod.snd
theorem smN.O {B B' : Nat → Bk} (h : smN B B') (b : Nat) : cnO B' b = cnO B b := by
  have e : cnC B' b = cnC B b := by
    have q := (h (bkP (B b) - 1)).2.2.2
    unfold cnC
    rw [(h b).2.1]
    cases h1 : bkC (B' (bkP (B b) - 1)) with
    | none =>
      rw [h1] at q
      cases h2 : bkC (B (bkP (B b) - 1)) with
      | none => rfl
      | some c => rw [h2] at q; cases q
    | some c =>
      rw [h1] at q
      cases h2 : bkC (B (bkP (B b) - 1)) with
      | none => rw [h2] at q; cases q
      | some c2 => rw [h2] at q; exact Option.some.inj q
  unfold cnO
  rw [e, (h b).1, (h b).2.2.1, cnF_n B', nB_e (fun i => ⟨(h i).1, (h i).2.2.1⟩), ← cnF_n]
theorem smN.st {B B' : Nat → Bk} (h : smN B B') (b r r' : Nat) (L : List Nat) : smN (cnB B b r L) (cnB B' b r' L) := fun i => by
  have m1 := cnB_M B b r L i
  have m2 := cnB_M B' b r' L i
  refine ⟨by rw [m1.1, m2.1, (h i).1], by rw [m1.2.2.1, m2.2.2.1, (h i).2.1], by rw [m1.2.2.2.1, m2.2.2.2.1, (h i).2.2.1], ?_⟩
  unfold cnB
  by_cases e : i = b
  · rw [e, va_up_self, va_up_self]; rfl
  · rw [va_up_ne _ _ e, va_up_ne _ _ e]; exact (h i).2.2.2
theorem cnA_s : ∀ (Q : List Nat) (B B' : Nat → Bk) (r r' : Nat), smN B B' → (cnA B' r' Q).2 = (cnA B r Q).2
  | [], B, B', r, r', _ => rfl
  | b :: Q, B, B', r, r', h => by
    have e : ∀ (B : Nat → Bk) (r : Nat), cnA B r (b :: Q) = if (cnO B b).1 = 0 then cnA (cnB B b r (cnO B b).2) (r + 1) Q else (B, (cnO B b).1, b) := fun B r => rfl
    rw [e, e, h.O b]
    by_cases c : (cnO B b).1 = 0
    · rw [if_pos c, if_pos c]
      exact cnA_s Q _ _ _ _ (h.st b r r' _)
    · rw [if_neg c, if_neg c]
theorem clL_s {B B' : Nat → Bk} (h : smN B B') : ∀ (u k : Nat), clL B' u k = clL B u k
  | 0, k => rfl
  | u + 1, k => by
    have q := (h (k - 1)).2.2.2
    unfold clL
    by_cases c : k = 0
    · rw [if_pos c, if_pos c]
    · rw [if_neg c, if_neg c]
      cases h1 : bkC (B' (k - 1)) with
      | none =>
        rw [h1] at q
        cases h2 : bkC (B (k - 1)) with
        | none =>
          show (k - 1) :: clL B' u (bkP (B' (k - 1))) = (k - 1) :: clL B u (bkP (B (k - 1)))
          rw [(h (k - 1)).2.1, clL_s h u]
        | some c => rw [h2] at q; cases q
      | some c =>
        rw [h1] at q
        cases h2 : bkC (B (k - 1)) with
        | none => rw [h2] at q; cases q
        | some c2 => rfl
/-- what judging says does not depend on where the block lies -/
theorem jgR_s {B : Nat → Bk} {n : Nat} {T : List Nat} (b r b' r' : Nat) : (jgR B n T b' r').2 = (jgR B n T b r).2 := by
  have h : smN (va_up B n (kpK B n T b)) (va_up B n (kpK B n T b')) := fun i => by
    by_cases e : i = n
    · rw [e, va_up_self, va_up_self]; exact ⟨rfl, rfl, rfl, rfl⟩
    · rw [va_up_ne _ _ e, va_up_ne _ _ e]; exact ⟨rfl, rfl, rfl, rfl⟩
  unfold jgR
  rw [clL_s h]
  exact cnA_s _ _ _ _ _ h
