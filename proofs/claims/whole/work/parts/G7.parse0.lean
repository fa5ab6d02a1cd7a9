/-! THE REFERENCE: parse, its inputs and outputs -/
/-- the object while a text is read: where it is, whether it is broken -/
def psO (S : ks_S) (V : Nat → Value) (y n p : Nat) (br : Bool) : Prop := S.2.2 290 = some (rfE V) ∧ V 36 = .int (nI p) ∧ V 37 = .int (nI n) ∧ V 38 = .ref y ∧ V 39 = .int (ks_bo br) ∧ p ≤ n
/-- what reading leaves -/
def psK (S S' : ks_S) (V V' : Nat → Value) : Prop := ks_up S S' [290] ∧ ∀ k, k ≠ 36 → k ≠ 39 → V' k = V k
theorem psK.rf (S : ks_S) (V : Nat → Value) : psK S S V V := ⟨ks_up.rf _ _, fun _ _ _ => rfl⟩
theorem psK.trans {S S1 S2 : ks_S} {V V1 V2 : Nat → Value} (h : psK S S1 V V1) (k : psK S1 S2 V1 V2) : psK S S2 V V2 := ⟨h.1.trans k.1, fun j h1 h2 => (k.2 j h1 h2).trans (h.2 j h1 h2)⟩
theorem c_ps_skipN {l : Launch} {G : ks_G} {d : Nat} {S : ks_S} {V : Nat → Value} {y n p m : Nat} {br : Bool} (h : psO S V y n p br) (hn : n < 2 ^ 16) (hm : p + m ≤ n) : ks_P l G yX16_skip mX16_skip d [.ref 290, .long (lN m)] S (fun z S' => z = none ∧ ∃ V', psK S S' V V' ∧ psO S' V' y n (p + m) br) := by
  obtain ⟨h1, h2, h3, h4, h5, h6⟩ := h
  refine (c_md_skipN h1 h2 h3 h6 (by omega) hm).mono ?_
  rintro z S' ⟨rfl, rfl⟩
  exact ⟨rfl, _, ⟨ks_up_set _ _ (List.mem_singleton.mpr rfl), fun k a b => va_up_ne _ _ a⟩, ks_set_same _ _ _, va_up_self _ _ _, (va_up_ne _ _ (by decide)).trans h3, (va_up_ne _ _ (by decide)).trans h4, (va_up_ne _ _ (by decide)).trans h5, hm⟩
theorem c_ps_skipX {l : Launch} {G : ks_G} {d : Nat} {S : ks_S} {V : Nat → Value} {y n p : Nat} {br : Bool} {x : Int64} (h : psO S V y n p br) (hn : n < 2 ^ 16) (hx : x < 0 ∨ lN (n - p) < x) : ks_P l G yX16_skip mX16_skip d [.ref 290, .long x] S (fun z S' => z = none ∧ ∃ V', psK S S' V V' ∧ psO S' V' y n p true) := by
  obtain ⟨h1, h2, h3, h4, h5, h6⟩ := h
  refine (c_md_skipX h1 h2 h3 h6 (by omega) hx).mono ?_
  rintro z S' ⟨rfl, rfl⟩
  exact ⟨rfl, _, ⟨ks_up_set _ _ (List.mem_singleton.mpr rfl), fun k a b => va_up_ne _ _ b⟩, ks_set_same _ _ _, (va_up_ne _ _ (by decide)).trans h2, (va_up_ne _ _ (by decide)).trans h3, (va_up_ne _ _ (by decide)).trans h4, va_up_self _ _ _, h6⟩
/-- whatever is skipped, broken stays broken -/
theorem c_ps_skipA {l : Launch} {G : ks_G} {d : Nat} {S : ks_S} {V : Nat → Value} {y n p : Nat} {x : Int64} (h : psO S V y n p true) (hn : n < 2 ^ 16) : ks_P l G yX16_skip mX16_skip d [.ref 290, .long x] S (fun z S' => z = none ∧ ∃ V' p', psK S S' V V' ∧ psO S' V' y n p' true) := by
  by_cases hx : x < 0 ∨ lN (n - p) < x
  · refine (c_ps_skipX h hn hx).mono ?_
    rintro z S' ⟨rfl, V', h1, h2⟩
    exact ⟨rfl, V', p, h1, h2⟩
  · obtain ⟨m, hm, rfl⟩ := wb_of x
    have hp := h.2.2.2.2.2
    have m63 : m < 2 ^ 63 := by
      by_cases c : m < 2 ^ 63
      · exact c
      · exact absurd (Or.inl (lN_ng9 (by omega) hm)) hx
    have hle : m ≤ n - p := by
      by_cases c : m ≤ n - p
      · exact c
      · exact absurd (Or.inr ((pk_lLT (by omega) m63).mpr (by omega))) hx
    refine (c_ps_skipN h hn (m := m) (by omega)).mono ?_
    rintro z S' ⟨rfl, V', h1, h2⟩
    exact ⟨rfl, V', p + m, h1, h2⟩
/-- a count -/
theorem c_ps_count {l : Launch} {G : ks_G} {d : Nat} {S : ks_S} {V : Nat → Value} {y N n p : Nat} {g : Nat → Nat} (h : psO S V y n p false) (hy : S.2.2 y = some (kB N g)) (kg : kO g) (hLN : n ≤ N) (hN : N < 2 ^ 16) : ks_P l G yX16_count mX16_count (d + 1) [.ref 290] S (fun z S' => ∃ V' q, psK S S' V V' ∧ ((∃ v, v < 65536 ∧ p < q ∧ z = some (.long (lN v)) ∧ psO S' V' y n q false ∧ ∀ most, most < 65536 → rc g p n most = if v ≤ most then some (v, q) else none) ∨ (∃ x, (x < 0 ∨ lN 65535 < x) ∧ z = some (.long x) ∧ psO S' V' y n q false ∧ ∀ most, most < 65536 → rc g p n most = none) ∨ (∃ x, z = some (.long x) ∧ psO S' V' y n q true ∧ ∀ most, most < 65536 → rc g p n most = none))) := by
  obtain ⟨h1, h2, h3, h4, h5, h6⟩ := h
  refine (c_md_count h1 h2 h3 h4 h5 hy kg hLN hN h6).mono ?_
  rintro z S' ⟨hu, V', e, hk, hc⟩
  have k3 := (hk 37 (by decide) (by decide)).trans h3
  have k4 := (hk 38 (by decide) (by decide)).trans h4
  rcases hc with ⟨v, q, a1, a2, a3, a4, a5, a6, a7⟩ | ⟨x, q, a1, a2, a3, a4, a5, a6⟩ | ⟨x, q, a1, a2, a3, a4, a5⟩
  · exact ⟨V', q, ⟨hu, hk⟩, Or.inl ⟨v, a1, a3, a4, ⟨e, a5, k3, k4, a6, a2⟩, a7⟩⟩
  · exact ⟨V', q, ⟨hu, hk⟩, Or.inr (Or.inl ⟨x, a1, a3, ⟨e, a4, k3, k4, a5, a2⟩, a6⟩)⟩
  · exact ⟨V', q, ⟨hu, hk⟩, Or.inr (Or.inr ⟨x, a1, ⟨e, a3, k3, k4, a4, a2⟩, a5⟩)⟩
theorem ip_far {g : Nat → Nat} {L p j a : Nat} (h : ip g L p j = some a) (ha : L < a) : ∀ k, j ≤ k → ip g L p k = none ∨ ∃ b, ip g L p k = some b ∧ L < b := by
  intro k hk
  by_cases e : j = k
  · subst e; exact Or.inr ⟨a, h, ha⟩
  · refine Or.inl (ip_n h ?_ k (by omega))
    unfold rc
    rw [if_pos (by omega)]
theorem ot_far {g : Nat → Nat} {L p j a : Nat} (h : ot g L p j = some a) (ha : L < a) : ∀ k, j ≤ k → ot g L p k = none ∨ ∃ b, ot g L p k = some b ∧ L < b := by
  intro k hk
  by_cases e : j = k
  · subst e; exact Or.inr ⟨a, h, ha⟩
  · refine Or.inl (ot_n h ?_ k (by omega))
    unfold rc
    rw [if_pos (by omega)]
