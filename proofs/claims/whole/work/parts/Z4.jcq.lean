/-! JUDGE on both sides: states behind a kept block -/
theorem cnA_N : ∀ (Q : List Nat) (B : Nat → Bk) (r i : Nat) (c : Nat × List Nat), bkC ((cnA B r Q).1 i) = some c → bkC (B i) = some c ∨ r ≤ c.1
  | [], _, _, _, _, h => Or.inl h
  | b :: Q, B, r, i, c, h => by
    unfold cnA at h
    split at h
    · rcases cnA_N Q _ _ i c h with w | w
      · rcases cnB_C w with w | w
        · exact Or.inr (by rw [w]; exact Nat.le_refl _)
        · exact Or.inl w
      · exact Or.inr (by omega)
    · exact Or.inl h
theorem jk_mem {n b x : Nat} {Bc : Nat → Bk} {k : Bk} (hk : bkN k = b) (h : x ∈ LI b ++ LJg n b (va_up Bc n k)) : (0 < x ∧ x < 3) ∨ (6 < x ∧ x < 52) ∨ (b ≤ x ∧ x < b + 5) ∨ ∃ i, i < n ∧ x = bkN (Bc i) := by
  have lin : ∀ x ∈ LIn, 6 < x ∧ x < 52 := by decide
  have lcn : ∀ x ∈ LCn, 6 < x ∧ x < 52 := by decide
  rcases List.mem_append.mp h with h | h
  · rcases LI_mem h with h | h | h
    · exact Or.inr (Or.inl (lin x h))
    · omega
    · omega
  · rcases List.mem_append.mp h with h | h
    · simp only [List.mem_cons, List.not_mem_nil, or_false] at h
      omega
    · rcases List.mem_append.mp h with h | h
      · exact Or.inr (Or.inl (lcn x h))
      · obtain ⟨i, hi, e9⟩ := List.mem_map.mp h
        have hi := List.mem_range.mp hi
        change bkN (va_up Bc n k i) = x at e9
        by_cases c : i = n
        · rw [c, va_up_self, hk] at e9
          omega
        · rw [va_up_ne _ _ c] at e9
          exact Or.inr (Or.inr (Or.inr ⟨i, by omega, e9.symm⟩))
theorem jk_cq {S S' : ks_S} {V : Nat → Value} {F n best bst b : Nat} {Bc Br Bf : Nat → Bk} {k : Bk} {C R : List Nat} {t q : Nat} {dt : Int64} {rs : Nat} {Ds D : Nat → dTx} {T : List Nat} {sl : Option Nat} {o : Nat} {f : Nat → Int64} (hC : cqS S n best Bc t q dt rs Ds T) (hR : rqS S V F n best Br C R t D T q dt rs) (hr : S'.1 + F + 20 < ks_B) (hF : chF S n Bc sl) (hN : cqN n Bc sl) (hsl : sl = some b ∨ (sl = none ∧ b = S.1)) (hk : bkN k = b) (u : ks_ex S S' (LI b ++ LJg n b (va_up Bc n k))) (hb5 : b + 5 ≤ S'.1) (ho : S.2.2 o = some (kJ 1 f)) (ho5 : 565 ≤ o) (hoS : o < S.1) (a1 : bfS S' 1 2 1600 (some [])) (mz : mcZ S') (tv : tvR S') (tg : ∃ N, tg_ok S' N) (a43 : ∃ f, S'.2.2 43 = some (kN 60 f)) (a48 : ∃ f, S'.2.2 48 = some (kL 11 f)) (a49 : ∃ g, kO g ∧ S'.2.2 49 = some (kB 32 g)) (a50 : ∃ f, S'.2.2 50 = some (kN 580 f)) (a51 : ∃ f, S'.2.2 51 = some (kN 40 f)) (cx : ∃ cc tk, chX S' (n + 1) bst cc tk Bf) (cf : chF S' (n + 1) Bf none) (ct : chT S' (n + 1) Bf) (eN : ∀ i, bkN (Bf i) = bkN (va_up Bc n k i)) (hc : ∀ i c, i < n + 1 → bkC (Bf i) = some c → (i < n ∧ bkC (Bc i) = some c) ∨ 565 ≤ c.1) (hc0 : ∀ c, bkC (Bc 0) = some c → bkC (Bf 0) = some c) : cqS S' (n + 1) bst Bf t q dt rs Ds [] ∧ rqS (ks_cl S') V F n best Br C R t D T q dt rs ∧ S'.2.2 o = some (kJ 1 f) := by
  have hS : 565 ≤ S.1 := hR.2.2.2.2.2.2.2.2.2.2
  have hb9 : 284 ≤ b ∧ (b + 4 < 290 ∨ 565 ≤ b) := by
    rcases hsl with e | ⟨-, e⟩
    · exact hN.2 b e
    · omega
  obtain ⟨cc, tk, hX⟩ := hC.2.2.2.2.1
  have ct0 := hC.2.2.2.2.2.2.1
  have n0 : 0 < n := hC.2.2.2.2.2.2.2.2.2
  have u1 := u.1
  have nmB : ∀ i, i < n → 284 ≤ bkN (Bc i) ∧ (bkN (Bc i) + 4 < 290 ∨ 565 ≤ bkN (Bc i)) ∧ bkN (Bc i) + 5 ≤ S.1 := fun i hi => ⟨(hN.1 i hi).1.1, (hN.1 i hi).1.2, (ct0.2.2 i hi).1⟩
  have n0L : 0 ∉ LI b ++ LJg n b (va_up Bc n k) := fun hm => by
    rcases jk_mem hk hm with w | w | w | ⟨i, hi, w⟩
    · omega
    · omega
    · omega
    · have := nmB i hi; omega
  have hC1 : cqS S' (n + 1) bst Bf t q dt rs Ds [] := by
    refine hC.mk9 u (fun x hx => ?_) hS (u.at hC.1.1 n0L (Or.inl (by omega))) a1 mz tv tg a43 a48 a49 a50 a51 cx ⟨none, cf, fun i hi => ?_, fun b9 e => by cases e⟩ ct ?_ ?_ (by omega)
    · rcases jk_mem hk hx with w | w | w | ⟨i, hi, w⟩
      · omega
      · omega
      · omega
      · have := nmB i hi; omega
    · refine ⟨?_, fun c h => ?_⟩
      · rw [eN i]
        by_cases e : i = n
        · rw [e, va_up_self, hk]; exact hb9
        · rw [va_up_ne _ _ e]; exact (hN.1 i (by omega)).1
      · rcases hc i c hi h with w | w
        · exact (hN.1 i w.1).2 c w.2
        · omega
    · rw [eN 0, va_up_ne _ _ (by omega)]
      exact hC.2.2.2.2.2.2.2.1
    · obtain ⟨L, e⟩ := hC.2.2.2.2.2.2.2.2.1
      exact ⟨L, hc0 _ e⟩
  have ob : ∀ i, i < n → ∃ len cnt par hei wk bad cr g1 f2 g3 g4, bkX S (bkN (Bc i)) len cnt par hei wk bad cr g1 f2 g3 g4 := fun i hi => by
    obtain ⟨g1, f2, g3, g4, h, -⟩ := hX.2.2.1 i hi
    exact ⟨_, _, _, _, _, _, _, g1, f2, g3, g4, h⟩
  have no : o ∉ LI b ++ LJg n b (va_up Bc n k) := fun hm => by
    rcases jk_mem hk hm with w | w | w | ⟨i, hi, w⟩
    · omega
    · omega
    · rcases hsl with e | ⟨-, e⟩
      · obtain ⟨q1, q2, len, cnt, par, hei, g1, f2, g3, g4, k0, k1, k2, k3, k4, -⟩ := hF.2 b e
        have hk : o = b ∨ o = b + 1 ∨ o = b + 2 ∨ o = b + 3 ∨ o = b + 4 := by omega
        rcases hk with q | q | q | q | q
        · rw [q, k0] at ho; cases ho
        · rw [q, k1] at ho; cases ho
        · rw [q, k2] at ho; cases ho
        · rw [q, k3] at ho; cases ho
        · rw [q, k4] at ho; cases ho
      · omega
    · obtain ⟨_, _, _, _, _, _, _, g1, f2, g3, g4, h, -⟩ := ob i hi
      rw [w, h] at ho
      cases ho
  refine ⟨hC1, hR.ex9 hC hC1 u (fun x hx => ?_) (by omega), u.at ho no (Or.inl hoS)⟩
  rcases jk_mem hk hx with w | w | w | ⟨i, hi, w⟩
  · exact Or.inl (by omega)
  · exact Or.inl (by omega)
  · rcases hb9.2 with w2 | w2
    · exact Or.inl (by omega)
    · exact Or.inr ⟨by omega, sl_rq hR hF hsl w.1 w.2 (by omega)⟩
  · rcases (nmB i hi).2.1 with w2 | w2
    · exact Or.inl (by omega)
    · refine Or.inr ⟨by omega, ?_⟩
      obtain ⟨_, _, _, _, _, _, _, g1, f2, g3, g4, h⟩ := ob i hi
      refine ⟨h.no5 (by omega) (by omega), fun j hj => ?_⟩
      have := bk_rk h (hR.2.2.1.2.1 j hj)
      omega
/-- the law's invariant again, behind a kept block -/
theorem lw_kept {o c : Nat} {S S1 S2 : ks_S} {n n2 best best2 : Nat} {Bc Br Bf Br2 : Nat → Bk} {C R C2 R2 : List Nat} {t q : Nat} {dt : Int64} {rs rs0 : Nat} {Ds D : Nat → dTx} {V V1 V2 : Nat → Value} {F F2 : Nat} {f : Nat → Int64} {T0 : List Nat} (hC : cqS S n2 best2 Bf t q dt rs Ds []) (p : pbK LJe FJe S S1 V V1) (hR1 : rqS S1 V1 F n best Br C R t D T0 q dt rs0) (fr : frS (nmL n Br ++ rfN) S1 S2) (hR : rqS S2 V2 F2 n2 best2 Br2 C2 R2 t D [] q dt rs) (hr : best2 < n2 ∧ t ≤ 12 ∧ q < n2 ∧ lwR n2 Bf Br2 ∧ (∀ i, i < t → D i = Ds i) ∧ kkK n2 best2 Bf Br2 C2) (ho : S.2.2 o = some (kJ 1 f)) (h5 : 565 ≤ o) (h6 : o < S.1) (hz : S1.1 ≤ S2.1 ∧ S2.1 < ks_B) (r1 : S2.1 + F2 ≤ 4000 + 6 * (c + 1) + 100 * n2) (r2 : S2.2.1 + 520 * F2 ≤ 2100000 + 2100 * (c + 1) + 30000 * n2) : S2.2.2 o = some (kJ 1 f) ∧ lwI kkK o (c + 1) S2 := by
  have e1 : S1.1 = S.1 := p.1.1
  have ho1 : S1.2.2 o = some (kJ 1 f) := p.1.at ho (fun hm => by
    have : ∀ x ∈ 290 :: LJe, x < 565 := by decide
    have := this o hm
    omega)
  have ho2 : S2.2.2 o = some (kJ 1 f) := fr o _ ho1 (fun hm => by
    rcases List.mem_append.mp hm with h | h
    · obtain ⟨i, hi, e9⟩ := List.mem_map.mp h
      have hi := List.mem_range.mp hi
      change bkN (Br i) = o at e9
      have := (hR1.2.2.1.2.1 i hi).no ho1
      omega
    · have := mem_rfN.mp h
      omega) (no52_ne rfl)
  have hC1 := hC.fr (p.fa (by decide)).c ⟨by rw [e1]; exact Nat.le_refl _, by omega⟩
  exact ⟨ho2, n2, best2, Bf, Br2, C2, R2, t, q, dt, rs, Ds, D, [], V2, F2, hC1.fr (fr.cn hR1.2.2.1) hz, hR, hr, ⟨⟨f, ho2⟩, h5, by omega⟩, r1, r2⟩
