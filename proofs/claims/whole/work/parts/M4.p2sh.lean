/-! PAY TO A SCRIPT'S HASH: what such an output's script does -/
theorem afL_hi {op : Nat} {t : List Nat} (h : 78 < op) : afL (op :: t) = some 1 := by
  have h1 : hdS op = 1 := by unfold hdS; rw [if_neg (by omega), if_neg (by omega), if_neg (by omega)]
  simp only [afL, h1]
  rw [if_neg (by omega), if_neg (show ¬ op < 76 by omega), if_neg (by show ¬ t.length - 0 < 0; omega)]
  rfl
theorem rnS_op {GD : List Nat → List Nat → List Nat → Bool} {LK : Int → Bool} {f a k : Nat} {t bg : List Nat} {ops : Nat} {xs ys : List (List Nat)} (hk : afL (a :: t) = some k) (hal : alwO a (k - hdS a) ops = true) (h99 : ¬ (99 ≤ a ∧ a ≤ 104)) : rnS GD LK (f + 1) (a :: t) bg ops xs ys [] = (match (if a ≤ 78 then some (((a :: t).take k).drop (hdS a) :: xs, ys) else opE GD LK a xs ys (opsN a ops) bg) with | none => none | some q => if 1000 < q.1.length + q.2.length then none else rnS GD LK f ((a :: t).drop k) (if a = 171 then (a :: t).drop k else bg) (opO a xs (opsN a ops)) q.1 q.2 []) := by
  rw [rnS, hk]
  simp only []
  rw [if_pos hal, if_neg h99, if_pos (show clN [] = 0 from rfl)]
  rfl
theorem p2_len {k : List Nat} (h : p2sh k = true) : ∃ d : List Nat, d.length = 20 ∧ k = 169 :: 20 :: (d ++ [135]) := by
  obtain ⟨h1, h2, h3, h4⟩ := of_decide_eq_true h
  match k, h1, h2, h3, h4 with
  | a :: b :: t, h1, h2, h3, h4 =>
    have l1 : t.length = 21 := by simp at h1; omega
    have h2 : a = 169 := h2
    have h3 : b = 20 := h3
    have h4 : t.getD 20 0 = 135 := h4
    refine ⟨t.take 20, by rw [List.length_take]; omega, ?_⟩
    rw [h2, h3]
    congr 2
    have e : t.drop 20 = [135] := by
      rw [List.drop_eq_getElem_cons (by omega), List.drop_of_length_le (by omega)]
      rw [List.getD_eq_getElem?_getD, List.getElem?_eq_getElem (by omega)] at h4
      have h5 : t[20] = 135 := h4
      rw [h5]
    rw [← e, List.take_append_drop]
theorem p2_run {GD : List Nat → List Nat → List Nat → Bool} {LK : Int → Bool} {k : List Nat} {xs : List (List Nat)} {s : List (List Nat) × List (List Nat)} (hk : p2sh k = true) (h : rnW GD LK k xs = some s) : ∃ x r b, xs = x :: r ∧ s = (flagL b :: r, []) := by
  obtain ⟨d, hd, rfl⟩ := p2_len hk
  unfold rnW at h
  have l : (169 :: 20 :: (d ++ [135])).length = 22 + 1 := by simp; omega
  rw [l, rnS_op (a := 169) (k := 1) (afL_hi (by decide)) rfl (by decide)] at h
  rw [show (if 169 ≤ 78 then some (((169 :: 20 :: (d ++ [135])).take 1).drop (hdS 169) :: xs, []) else opE GD LK 169 xs [] (opsN 169 0) (169 :: 20 :: (d ++ [135]))) = htS 169 xs [] from rfl] at h
  cases xs with
  | nil =>
    rw [show htS 169 [] [] = none from rfl] at h
    cases h
  | cons x r =>
    rw [show htS 169 (x :: r) [] = some (hsS 169 x :: r, []) by unfold htS; rw [if_neg (by simp)]; rfl] at h
    simp only [] at h
    split at h
    · cases h
    · rw [show List.drop 1 (169 :: 20 :: (d ++ [135])) = 20 :: (d ++ [135]) from rfl] at h
      have ld : (d ++ [135]).length = 21 := by simp; omega
      have a20 : afL (20 :: (d ++ [135])) = some 21 := by
        simp only [afL, show hdS 20 = 1 from rfl]
        rw [if_neg (by omega), if_pos (show (20 : Nat) < 76 by decide), if_neg (by omega)]
      obtain ⟨o1, eo1⟩ : ∃ o, o = opO 169 (x :: r) (opsN 169 0) := ⟨_, rfl⟩
      rw [← eo1] at h
      have o1e : o1 = 1 := eo1
      subst o1e
      obtain ⟨b1, eb1⟩ : ∃ b, b = (if 169 = 171 then 20 :: (d ++ [135]) else 169 :: 20 :: (d ++ [135])) := ⟨_, rfl⟩
      rw [← eb1] at h
      rw [rnS_op (f := 21) (a := 20) (k := 21) a20 rfl (by decide)] at h
      obtain ⟨y, ey⟩ : ∃ y, y = (((20 :: (d ++ [135])).take 21).drop (hdS 20)) := ⟨_, rfl⟩
      rw [← ey, if_pos (show (20 : Nat) ≤ 78 by decide)] at h
      simp only [] at h
      split at h
      · cases h
      · have e135 : List.drop 21 (20 :: (d ++ [135])) = [135] := by
          rw [List.drop_succ_cons, List.drop_append_of_le_length (by omega), List.drop_of_length_le (by omega)]
          rfl
        rw [e135, show opO 20 (hsS 169 x :: r) (opsN 20 1) = 1 from rfl] at h
        rw [rnS_op (f := 20) (a := 135) (t := []) (k := 1) (afL_hi (by decide)) rfl (by decide)] at h
        obtain ⟨b2, eb2⟩ : ∃ b, b = (if 20 = 171 then [135] else b1) := ⟨_, rfl⟩
        rw [← eb2] at h
        rw [show (if 135 ≤ 78 then some ((([135] : List Nat).take 1).drop (hdS 135) :: y :: hsS 169 x :: r, []) else opE GD LK 135 (y :: hsS 169 x :: r) [] (opsN 135 1) b2) = cmS (y :: hsS 169 x :: r) [] from rfl] at h
        rw [show cmS (y :: hsS 169 x :: r) [] = some (flagL (decide (y = hsS 169 x)) :: r, []) by unfold cmS; rw [if_neg (by simp)]; rfl] at h
        simp only [] at h
        split at h
        · cases h
        · rw [show List.drop 1 ([135] : List Nat) = [] from rfl, rnS_nil, if_pos rfl] at h
          exact ⟨x, r, decide (y = hsS 169 x), rfl, (Option.some.inj h).symm⟩
/-- unlocking, in the reference's order -/
theorem ul_ref (GD : List Nat → List Nat → List Nat → Bool) (LK : Int → Bool) (si k : List Nat) : ulS GD LK si k = (match rnW GD LK si [] with
  | none => false
  | some q => match rnW GD LK k q.1 with
    | none => false
    | some r => if topTr r.1 = false then false else if p2sh k = false then true else if psh_ si = false then false else match rnW GD LK (q.1.getD 0 []) (q.1.drop 1) with
      | none => false
      | some t => topTr t.1) := by
  unfold ulS
  cases h1 : rnW GD LK si [] with
  | none => rfl
  | some q =>
    simp only []
    cases h2 : rnW GD LK k q.1 with
    | none =>
      simp only []
      split <;> rfl
    | some r =>
      simp only []
      cases hp : p2sh k with
      | false =>
        rw [if_neg (fun h => by cases h.1)]
        by_cases ht : topTr r.1 = false
        · rw [if_pos ht, if_pos ht]
        · rw [if_neg ht, if_neg ht, if_pos rfl, if_pos rfl]
      | true =>
        obtain ⟨x, rr, b, e1, e2⟩ := p2_run hp h2
        have ne : q.1 ≠ [] := by rw [e1]; simp
        have ed : r.1.drop 1 = q.1.drop 1 := by rw [e1, e2]; rfl
        cases hs : psh_ si with
        | false =>
          rw [if_pos ⟨rfl, .inr rfl⟩]
          split
          · rfl
          · rw [if_neg (by decide), if_pos rfl]
        | true =>
          rw [if_neg (fun h => by rcases h.2 with h | h; exact ne h; cases h), ed]
          split
          · rfl
          · rw [if_neg (by decide), if_neg (by decide), if_neg (by decide)]
            rfl
