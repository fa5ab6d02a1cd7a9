/-! CHAIN: what a set row of coins leaves as it was -/
def cnB (B : Nat → Bk) (b r : Nat) (L : List Nat) : Nat → Bk := va_up B b (setC (B b) (some (r, L)))
theorem cnB_M (B : Nat → Bk) (b r : Nat) (L : List Nat) (i : Nat) : bkM (cnB B b r L i) = bkM (B i) ∧ bkN (cnB B b r L i) = bkN (B i) ∧ bkP (cnB B b r L i) = bkP (B i) ∧ bkH (cnB B b r L i) = bkH (B i) ∧ bkW (cnB B b r L i) = bkW (B i) ∧ bkD (cnB B b r L i) = bkD (B i) := by
  unfold cnB
  by_cases e : i = b
  · subst e; rw [va_up_self]; exact ⟨rfl, rfl, rfl, rfl, rfl, rfl⟩
  · rw [va_up_ne _ _ e]; exact ⟨rfl, rfl, rfl, rfl, rfl, rfl⟩
theorem cnB_C {B : Nat → Bk} {b r : Nat} {L : List Nat} {i : Nat} {c : Nat × List Nat} (h : bkC (cnB B b r L i) = some c) : c = (r, L) ∨ bkC (B i) = some c := by
  unfold cnB at h
  by_cases e : i = b
  · subst e; rw [va_up_self] at h; left; exact (Option.some.inj h).symm
  · rw [va_up_ne _ _ e] at h; exact Or.inr h
theorem cnG_c {n : Nat} {B B' : Nat → Bk} (h : ∀ i, i < n → bkM (B' i) = bkM (B i)) {x : Nat} (hg : cnG n B x) : cnG n B' x := by
  obtain ⟨b, t, o, h1, h2, h3, h4⟩ := hg
  have e := h b h1
  exact ⟨b, t, o, h1, by rw [e]; exact h2, by rw [e]; exact h3, by rw [e]; exact h4⟩
theorem chS.coin {S : ks_S} {n : Nat} {B : Nat → Bk} (h : chS n B) (hT : chT S n B) (b : Nat) (L : List Nat) : chS n (cnB B b S.1 L) := by
  refine ⟨fun i j hi hj e => ?_, fun i j c hi hj hc => ?_⟩
  · rw [(cnB_M B b S.1 L i).2.1, (cnB_M B b S.1 L j).2.1]; exact h.1 i j hi hj e
  · rw [(cnB_M B b S.1 L j).2.1]
    rcases cnB_C hc with e | e
    · rw [e]; right; exact (hT.2.2 j hj).1
    · exact h.2 i j c hi hj e
theorem chT.coin {S S1 : ks_S} {n : Nat} {B : Nat → Bk} (hT : chT S n B) (h1 : S1.1 = S.1 + 1) (h2 : S1.1 < ks_B) (b : Nat) (L : List Nat) : chT S1 n (cnB B b S.1 L) := by
  refine ⟨by have := hT.1; omega, h2, fun i hi => ⟨?_, fun c hc => ?_⟩⟩
  · rw [(cnB_M B b S.1 L i).2.1]; have := (hT.2.2 i hi).1; omega
  · rcases cnB_C hc with e | e
    · rw [e]; show S.1 < S1.1; omega
    · have := (hT.2.2 i hi).2 c e; omega
theorem chW.coin {n : Nat} {B : Nat → Bk} (h : chW n B) (b r : Nat) (L : List Nat) : chW n (cnB B b r L) := by
  refine ⟨by rw [(cnB_M B b r L 0).2.2.1]; exact h.1, fun i h1 h2 => ?_⟩
  rw [(cnB_M B b r L i).2.2.1]
  exact h.2 i h1 h2
