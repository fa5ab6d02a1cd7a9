/-! THE PATH of a block that is kept -/
theorem cq_path {n : Nat} {B : Nat → Bk} (hW : chW n B) : ∀ (Q : List Nat) (q : Nat), cqOK B n q Q → upP B (cqE q Q) = upP B q ++ Q
  | [], q, _ => (List.append_nil _).symm
  | b :: Q, q, ⟨hb, hp, _, hq, h⟩ => by
    show upP B (cqE b Q) = _
    rw [cq_path hW Q b h, upP_s hW hb (by omega), hp, Nat.add_sub_cancel, List.append_assoc, List.singleton_append]
/-- where a block has coins, the one below it has -/
def chP (n : Nat) (B : Nat → Bk) : Prop := ∀ i, 0 < i → i < n → (bkC (B i)).isSome = true → (bkC (B (bkP (B i) - 1))).isSome = true
theorem chP.all {n : Nat} {B : Nat → Bk} (hW : chW n B) (h : chP n B) : ∀ (m q : Nat), q ≤ m → q < n → (bkC (B q)).isSome = true → ∀ x ∈ upP B q, (bkC (B x)).isSome = true
  | 0, q, hm, hq, hc, x, hx => by
    have e : q = 0 := by omega
    rw [e] at hx hc
    rw [upP_0] at hx
    rw [List.mem_singleton.mp hx]
    exact hc
  | m + 1, q, hm, hq, hc, x, hx => by
    by_cases e : q = 0
    · exact chP.all hW h m q (by omega) hq hc x hx
    · have hp := hW.2 q (by omega) hq
      rw [upP_s hW hq (by omega)] at hx
      rcases List.mem_append.mp hx with hx | hx
      · exact chP.all hW h m (bkP (B q) - 1) (by omega) (by omega) (h q (by omega) hq hc) x hx
      · rw [List.mem_singleton.mp hx]
        exact hc
theorem chP.st {n : Nat} {B : Nat → Bk} (h : chP n B) {b r : Nat} {L : List Nat} (hb : (bkC (B (bkP (B b) - 1))).isSome = true) : chP n (cnB B b r L) := fun i h0 hi hc => by
  rw [(cnB_M B b r L i).2.2.1]
  have some9 : ∀ j, (bkC (B j)).isSome = true → (bkC (cnB B b r L j)).isSome = true := fun j hj => by
    unfold cnB
    by_cases e : j = b
    · rw [e, va_up_self]; rfl
    · rw [va_up_ne _ _ e]; exact hj
  by_cases e : i = b
  · rw [e]; exact some9 _ hb
  · refine some9 _ (h i h0 hi ?_)
    unfold cnB at hc
    rw [va_up_ne _ _ e] at hc
    exact hc
theorem chP_A {n : Nat} : ∀ (Q : List Nat) (B : Nat → Bk) (q r : Nat), chP n B → cqOK B n q Q → (bkC (B q)).isSome = true → chP n (cnA B r Q).1
  | [], B, q, r, h, _, _ => h
  | b :: Q, B, q, r, h, ⟨hb, hp, _, hq, hcq⟩, hc => by
    have e : cnA B r (b :: Q) = if (cnO B b).1 = 0 then cnA (cnB B b r (cnO B b).2) (r + 1) Q else (B, (cnO B b).1, b) := rfl
    rw [e]
    by_cases c : (cnO B b).1 = 0
    · rw [if_pos c]
      exact chP_A Q _ b _ (h.st (by rw [hp, Nat.add_sub_cancel]; exact hc)) (cqOK_set (Nat.le_refl _) hcq) (by unfold cnB; rw [va_up_self]; rfl)
    · rw [if_neg c]
      exact h
