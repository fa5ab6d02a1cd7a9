/-! THE JUDGE: the blocks of a path get their coins, one behind another (mathematics) -/
/-- a path from a place with coins upward -/
def cqOK (B : Nat → Bk) (n : Nat) : Nat → List Nat → Prop
  | _, [] => True
  | q, b :: Q => b < n ∧ bkP (B b) = q + 1 ∧ bkC (B b) = none ∧ q < b ∧ cqOK B n b Q
def cqE : Nat → List Nat → Nat
  | q, [] => q
  | _, b :: Q => cqE b Q
theorem cqOK_app {B : Nat → Bk} {n b : Nat} : ∀ {q : Nat} {Q : List Nat}, cqOK B n q Q → b < n → bkP (B b) = cqE q Q + 1 → bkC (B b) = none → cqE q Q < b → cqOK B n q (Q ++ [b]) ∧ cqE q (Q ++ [b]) = b
  | q, [], _, h1, h2, h3, h4 => ⟨⟨h1, h2, h3, h4, trivial⟩, rfl⟩
  | q, a :: Q, h, h1, h2, h3, h4 => by
    obtain ⟨g1, g2, g3, g4, g5⟩ := h
    obtain ⟨i1, i2⟩ := cqOK_app g5 h1 h2 h3 h4
    exact ⟨⟨g1, g2, g3, g4, i1⟩, i2⟩
theorem cqOK_set {B : Nat → Bk} {n a r : Nat} {L : List Nat} : ∀ {q : Nat} {Q : List Nat}, a ≤ q → cqOK B n q Q → cqOK (cnB B a r L) n q Q
  | q, [], _, _ => trivial
  | q, b :: Q, ha, h => by
    obtain ⟨g1, g2, g3, g4, g5⟩ := h
    have e : cnB B a r L b = B b := va_up_ne _ _ (by omega)
    exact ⟨g1, by rw [e]; exact g2, by rw [e]; exact g3, g4, cqOK_set (by omega) g5⟩
theorem cl_cq {n : Nat} {B : Nat → Bk} (hW : chW n B) (h0 : bkC (B 0) ≠ none) : ∀ {u k : Nat}, 0 < k → k ≤ n → k ≤ u → ∃ q c, q < n ∧ bkC (B q) = some c ∧ cqOK B n q (clL B u k).reverse ∧ cqE q (clL B u k).reverse = k - 1
  | 0, k, h1, h2, h3 => by omega
  | u + 1, k, h1, h2, h3 => by
    rw [clL, if_neg (by omega)]
    cases hc : bkC (B (k - 1)) with
    | some c => exact ⟨k - 1, c, by omega, hc, trivial, rfl⟩
    | none =>
      have k1 : 0 < k - 1 := by
        rcases Nat.eq_zero_or_pos (k - 1) with e | e
        · rw [e] at hc; exact absurd hc h0
        · exact e
      obtain ⟨p1, p2⟩ := hW.2 (k - 1) k1 (by omega)
      obtain ⟨q, c, i1, i2, i3, i4⟩ := cl_cq hW h0 (u := u) (k := bkP (B (k - 1))) p1 (by omega) (by omega)
      obtain ⟨j1, j2⟩ := cqOK_app (b := k - 1) i3 (by omega) (by rw [i4]; omega) hc (by rw [i4]; omega)
      show ∃ q c, q < n ∧ bkC (B q) = some c ∧ cqOK B n q ((k - 1) :: clL B u (bkP (B (k - 1)))).reverse ∧ cqE q ((k - 1) :: clL B u (bkP (B (k - 1)))).reverse = k - 1
      rw [List.reverse_cons]
      exact ⟨q, c, i1, i2, j1, j2⟩
/-- the coins of a block's parent -/
def cnC (B : Nat → Bk) (b : Nat) : List Nat := match bkC (B (bkP (B b) - 1)) with
  | some c => c.2
  | none => []
def cnO (B : Nat → Bk) (b : Nat) : Nat × List Nat := cnF B (bkM (B b)) b (bkH (B b)) (mg (bkM (B b)) 80) 0 (cnC B b) 0
/-- blocks, reason (0: none), the block that was refused -/
def cnA : (Nat → Bk) → Nat → List Nat → (Nat → Bk) × Nat × Nat
  | B, _, [] => (B, 0, 0)
  | B, r, b :: Q => if (cnO B b).1 = 0 then cnA (cnB B b r (cnO B b).2) (r + 1) Q else (B, (cnO B b).1, b)
theorem cnF_le {B : Nat → Bk} {M : List Nat} {b h : Nat} : ∀ {u t : Nat} {L : List Nat} {left : Nat}, (cnF B M b h u t L left).1 ≤ 16
  | 0, t, L, left => by
    unfold cnF
    split
    · show 15 ≤ 16; decide
    · show 0 ≤ 16; decide
  | u + 1, t, L, left => by
    unfold cnF
    split
    · split
      · exact Nat.le_refl 16
      · exact cnF_le
    · split
      · exact Nat.le_trans fcF_le (by decide)
      · split
        · show 13 ≤ 16; decide
        · split
          · show 14 ≤ 16; decide
          · split
            · exact Nat.le_refl 16
            · exact cnF_le
theorem cnO_le {B : Nat → Bk} {b : Nat} : (cnO B b).1 ≤ 16 := cnF_le
theorem chX.best {S : ks_S} {n best : Nat} {cc : Int32} {tk : Int64} {B : Nat → Bk} (h : chX S n best cc tk B) (b2 : Nat) : chX (ks_set S 41 (.inr (5, [.ref 42, .ref 43, .ref 44, .int (nI n), .int (nI b2), .ref 7, .ref 27, .ref 20, .ref 48, .ref 49, .ref 50, .ref 51, .int cc, .long tk]))) n b2 cc tk B := by
  obtain ⟨h1, ⟨bf, h2, h3⟩, h4, h5⟩ := h
  refine ⟨ks_set_same _ _ _, ⟨bf, (ks_set_ne _ _ (by decide)).trans h2, h3⟩, fun i hi => ?_, h5⟩
  have h9 := h4 i hi
  refine h9.set2 ?_ (fun c hc => ?_)
  · obtain ⟨g1, f2, g3, g4, q, -⟩ := h9
    have := q.2.2.2.2.2.2.2.2.2
    omega
  · obtain ⟨g1, f2, g3, g4, -, -, -, -, -, -, -, q⟩ := h9
    have := (q c hc).2.2.1
    omega
theorem chF.ag {S S1 : ks_S} {n : Nat} {B B' : Nat → Bk} (h : chF S n B none) (h42 : S1.2.2 42 = S.2.2 42) : chF S1 n B' none := by
  obtain ⟨⟨bf, h1, h2, h3⟩, -⟩ := h
  exact ⟨⟨bf, h42.trans h1, h2, h3⟩, fun b hb => by cases hb⟩
/-- of a kept block -/
theorem r1F_0 {M : List Nat} : ∀ {c t : Nat}, r1F M c t = 0 → ∀ i, t ≤ i → i < t + c → rfM M i = 0
  | 0, t, _, i, h1, h2 => by omega
  | c + 1, t, h, i, h1, h2 => by
    unfold r1F at h
    by_cases e : rfM M t = 0
    · rw [if_pos e] at h
      by_cases e2 : i = t
      · subst e2; exact e
      · exact r1F_0 h i (by omega) (by omega)
    · rw [if_neg e] at h; exact absurd h e
theorem rfM_lt (M : List Nat) (t : Nat) : rfM M t < 9 := by
  unfold rfM rf_
  split
  · decide
  · split
    · decide
    · split
      · split <;> decide
      · split <;> decide
theorem r1F_lt (M : List Nat) : ∀ (c t : Nat), r1F M c t < 9
  | 0, t => by unfold r1F; decide
  | c + 1, t => by
    unfold r1F
    split
    · exact r1F_lt M c (t + 1)
    · exact rfM_lt M t
theorem rfM_fit {M : List Nat} {t : Nat} (h : rfM M t = 0) : fit_b (mg M) M.length (txP M t).2.2.2.1 (txP M t).2.2.1 = true := by
  unfold rfM rf_ at h
  split at h
  · cases h
  · split at h
    · cases h
    · next h2 =>
      cases hf : fit_b (mg M) M.length (txP M t).2.2.2.1 (txP M t).2.2.1 with
      | true => rfl
      | false => exact absurd (Or.inr (Or.inr hf)) h2
theorem rtF_0 {M : List Nat} {h : Nat} (h0 : rtF M h = 0) : 0 < mg M 80 ∧ r1F M (mg M 80) 0 = 0 := by
  unfold rtF at h0
  split at h0
  · cases h0
  · next h1 =>
    split at h0
    · cases h0
    · split at h0
      · next h3 => exact absurd h0 h3
      · next h3 => exact ⟨by omega, by omega⟩
theorem inF_0 {B : Nat → Bk} {n : Nat} {M : List Nat} (h : inF B n M = nI 0) : 0 < mg M 80 ∧ (∀ t, t < mg M 80 → fit_b (mg M) M.length (txP M t).2.2.2.1 (txP M t).2.2.1 = true) := by
  have e : rtF M (bkH (B (inQ B n M - 1)) + 1) = 0 := by
    have le : rtF M (bkH (B (inQ B n M - 1)) + 1) < 11 := by
      unfold rtF
      split
      · decide
      · split
        · decide
        · split
          · exact Nat.lt_trans (r1F_lt _ _ _) (by decide)
          · split
            · decide
            · split <;> decide
    have h3 : rhF B M (inQ B n M - 1) < 6 := by unfold rhF; split; decide; split; split; decide; decide; decide
    unfold inF at h
    split at h
    · exact absurd h (by decide)
    · split at h
      · exact absurd h (by decide)
      · split at h
        · exact absurd h (by decide)
        · split at h
          · exact absurd h (by decide)
          · split at h
            · next h9 => exact absurd h (nI_05 _ h3 h9)
            · exact (nI_eq (by omega) (by decide)).mp h
  obtain ⟨a, b⟩ := rtF_0 e
  exact ⟨a, fun t ht => rfM_fit (r1F_0 b t (Nat.zero_le _) (by omega))⟩
theorem chS.keep {n : Nat} {B : Nat → Bk} {k : Bk} (h : chS n B) (hA : slA n B (bkN k)) (hc : bkC k = none) : chS (n + 1) (va_up B n k) := by
  have e1 : ∀ i, i < n → va_up B n k i = B i := fun i hi => va_up_ne _ _ (by omega)
  have e2 : va_up B n k n = k := va_up_self _ _ _
  refine ⟨fun i j hi hj hne => ?_, fun i j c hi hj hq => ?_⟩
  · by_cases a : i = n
    · subst a
      rw [e2, e1 j (by omega)]
      have := (hA j (by omega)).1
      omega
    · by_cases b : j = n
      · subst b
        rw [e2, e1 i (by omega)]
        exact (hA i (by omega)).1
      · rw [e1 i (by omega), e1 j (by omega)]; exact h.1 i j (by omega) (by omega) hne
  · by_cases a : i = n
    · subst a; rw [e2, hc] at hq; cases hq
    · rw [e1 i (by omega)] at hq
      by_cases b : j = n
      · subst b; rw [e2]; exact (hA i (by omega)).2 c hq
      · rw [e1 j (by omega)]; exact h.2 i j c (by omega) (by omega) hq
theorem chT.keep {S : ks_S} {n : Nat} {B : Nat → Bk} {k : Bk} (h : chT S n B) (hk : bkN k + 5 ≤ S.1) (hc : bkC k = none) : chT S (n + 1) (va_up B n k) := by
  refine ⟨h.1, h.2.1, fun i hi => ?_⟩
  by_cases a : i = n
  · subst a; rw [va_up_self]; exact ⟨hk, fun c hq => by rw [hc] at hq; cases hq⟩
  · rw [va_up_ne _ _ a]; exact h.2.2 i (by omega)
theorem chW.keep {n : Nat} {B : Nat → Bk} {k : Bk} (h : chW n B) (hn : 0 < n) (hk : 0 < bkP k ∧ bkP k ≤ n) : chW (n + 1) (va_up B n k) := by
  refine ⟨by rw [va_up_ne _ _ (by omega : (0 : Nat) ≠ n)]; exact h.1, fun i h1 h2 => ?_⟩
  by_cases a : i = n
  · subst a; rw [va_up_self]; exact ⟨hk.1, hk.2⟩
  · rw [va_up_ne _ _ a]; exact h.2 i h1 (by omega)
/-- coins speak of outputs of kept blocks -/
def chC (n : Nat) (B : Nat → Bk) : Prop := ∀ i c, i < n → bkC (B i) = some c → ∀ x ∈ c.2, cnG n B x
theorem cnG_keep {n : Nat} {B : Nat → Bk} {k : Bk} {x : Nat} (h : cnG n B x) : cnG (n + 1) (va_up B n k) x := by
  obtain ⟨b, t, o, h1, h2, h3, h4⟩ := h
  have e : va_up B n k b = B b := va_up_ne _ _ (by omega)
  exact ⟨b, t, o, by omega, by rw [e]; exact h2, by rw [e]; exact h3, by rw [e]; exact h4⟩
theorem chC.keep {n : Nat} {B : Nat → Bk} {k : Bk} (h : chC n B) (hc : bkC k = none) : chC (n + 1) (va_up B n k) := fun i c hi hq x hx => by
  by_cases a : i = n
  · subst a; rw [va_up_self, hc] at hq; cases hq
  · rw [va_up_ne _ _ a] at hq
    exact cnG_keep (h i c (by omega) hq x hx)
theorem chC.coin {n : Nat} {B : Nat → Bk} (h : chC n B) {b r : Nat} {L : List Nat} (hL : ∀ x ∈ L, cnG n B x) : chC n (cnB B b r L) := fun i c hi hq x hx => by
  refine cnG_c (fun j _ => (cnB_M B b r L j).1) ?_
  rcases cnB_C hq with e | e
  · rw [e] at hx; exact hL x hx
  · exact h i c hi e x hx
/-- every block's values fit, every block has a transaction, heights are small -/
def chV (n : Nat) (B : Nat → Bk) : Prop := ∀ b, b < n → bkH (B b) < 700 ∧ 0 < mg (bkM (B b)) 80 ∧ ∀ t, t < mg (bkM (B b)) 80 → fit_b (mg (bkM (B b))) (bkM (B b)).length (txP (bkM (B b)) t).2.2.2.1 (txP (bkM (B b)) t).2.2.1 = true
theorem chV.keep {n : Nat} {B : Nat → Bk} {k : Bk} (h : chV n B) (hk : bkH k < 700 ∧ 0 < mg (bkM k) 80 ∧ ∀ t, t < mg (bkM k) 80 → fit_b (mg (bkM k)) (bkM k).length (txP (bkM k) t).2.2.2.1 (txP (bkM k) t).2.2.1 = true) : chV (n + 1) (va_up B n k) := fun b hb => by
  by_cases a : b = n
  · subst a; rw [va_up_self]; exact hk
  · rw [va_up_ne _ _ a]; exact h b (by omega)
theorem chV.coin {n : Nat} {B : Nat → Bk} (h : chV n B) (a r : Nat) (L : List Nat) : chV n (cnB B a r L) := fun b hb => by
  rw [(cnB_M B a r L b).1, (cnB_M B a r L b).2.2.2.1]
  exact h b hb
/-- where the loop stands: N blocks, q has its coins, u of the path's places are left -/
def jgI (S0 S1 : ks_S) (N best : Nat) (B1 Bc : Nat → Bk) (Pt : List Nat) (u q : Nat) : Prop := (∃ cc tk, chX S1 N best cc tk Bc) ∧ chS N Bc ∧ chT S1 N Bc ∧ chW N Bc ∧ chC N Bc ∧ chV N Bc ∧ mcZ S1 ∧ tvR S1 ∧ (∃ f, S1.2.2 50 = some (kN 580 f)) ∧ (∃ f, S1.2.2 51 = some (kN 40 f)) ∧ ks_stOK S1 ∧ (∀ i, bkM (Bc i) = bkM (B1 i) ∧ bkN (Bc i) = bkN (B1 i) ∧ bkP (Bc i) = bkP (B1 i) ∧ bkH (Bc i) = bkH (B1 i) ∧ bkW (Bc i) = bkW (B1 i) ∧ bkD (Bc i) = bkD (B1 i)) ∧ ks_ex S0 S1 (LCn ++ nmL N B1) ∧ (q < N ∧ ∃ c, bkC (Bc q) = some c) ∧ cqOK Bc N q (Pt.take u).reverse ∧ S1.1 + u ≤ S0.1 + Pt.length ∧ S1.2.1 + 400 * u ≤ S0.2.1 + 400 * Pt.length
theorem take_rev {Pt : List Nat} {u : Nat} (h : u < Pt.length) : (Pt.take (u + 1)).reverse = Pt.getD u 0 :: (Pt.take u).reverse := by
  rw [List.take_succ, List.reverse_append]
  simp [List.getD, h]
theorem jgI.step {S0 S1 T : ks_S} {N best : Nat} {B1 Bc : Nat → Bk} {Pt : List Nat} {u q : Nat} {cc : Int32} {tk : Int64} (h : jgI S0 S1 N best B1 Bc Pt (u + 1) q) (hu : u < Pt.length) (hroom : S0.1 + Pt.length < ks_B)
    (ex : ks_ex S1 T (LCn ++ [bkN (Bc (Pt.getD u 0))])) (sz : T.1 = S1.1 + 1 ∧ T.2.1 ≤ S1.2.1 + 400) (hZ : mcZ T) (hR : tvR T) (h50 : ∃ f, T.2.2 50 = some (kN 580 f)) (h51 : ∃ f, T.2.2 51 = some (kN 40 f)) (hL : ∀ x ∈ (cnO Bc (Pt.getD u 0)).2, cnG N Bc x) (hX : chX T N best cc tk (cnB Bc (Pt.getD u 0) S1.1 (cnO Bc (Pt.getD u 0)).2)) : jgI S0 T N best B1 (cnB Bc (Pt.getD u 0) S1.1 (cnO Bc (Pt.getD u 0)).2) Pt u (Pt.getD u 0) := by
  obtain ⟨-, i2, i3, i4, i5, i6, -, -, -, -, i11, i12, i13, i14, i15, i16, i17⟩ := h
  rw [take_rev hu] at i15
  obtain ⟨c1, c2, c3, c4, c5⟩ := i15
  refine ⟨⟨cc, tk, hX⟩, i2.coin i3 _ _, i3.coin sz.1 (by omega) _ _, i4.coin _ _ _, i5.coin hL, i6.coin _ _ _, hZ, hR, h50, h51, ?_, fun i => ?_, i13.trans (ex.mono (fun x hx => ?_)), ⟨c1, (S1.1, (cnO Bc (Pt.getD u 0)).2), ?_⟩, cqOK_set (Nat.le_refl _) c5, by omega, by omega⟩
  · refine ex.st i11 (fun a ha => ?_)
    rcases List.mem_append.mp ha with h | h
    · have := (by decide : ∀ x ∈ LCn, x < 56) a h
      show a < 1099511627776
      omega
    · rw [List.mem_singleton.mp h]
      have := (i3.2.2 _ c1).1
      have := i3.2.1
      omega
  · have e := cnB_M Bc (Pt.getD u 0) S1.1 (cnO Bc (Pt.getD u 0)).2 i
    have f := i12 i
    exact ⟨e.1.trans f.1, e.2.1.trans f.2.1, e.2.2.1.trans f.2.2.1, e.2.2.2.1.trans f.2.2.2.1, e.2.2.2.2.1.trans f.2.2.2.2.1, e.2.2.2.2.2.trans f.2.2.2.2.2⟩
  · rcases List.mem_append.mp hx with h | h
    · exact List.mem_append_left _ h
    · rw [List.mem_singleton.mp h, (i12 _).2.1]
      exact List.mem_append_right _ (nmL_mem c1)
  · show bkC (cnB Bc (Pt.getD u 0) S1.1 (cnO Bc (Pt.getD u 0)).2 (Pt.getD u 0)) = _
    unfold cnB
    rw [va_up_self]
    rfl
