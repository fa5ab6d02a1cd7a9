/-! THE LAW: what holds between its calls -/
theorem ks_up.ex9 {S S1 : ks_S} {L : List Nat} (u : ks_up S S1 L) : ks_ex S S1 L := ⟨by rw [u.1]; exact Nat.le_refl _, by rw [u.2.1]; exact Nat.le_refl _, fun a h _ => u.2.2 a h⟩
/-- the class behind a method that writes below 284 -/
theorem cqS.up {S S1 : ks_S} {n best : Nat} {B : Nat → Bk} {dc dp : Nat} {dt : Int64} {rs : Nat} {Ds : Nat → dTx} {T : List Nat} {dc1 dp1 : Nat} {dt1 : Int64} {rs1 : Nat} {Ds1 : Nat → dTx} {T1 : List Nat} {L : List Nat} (h : cqS S n best B dc dp dt rs Ds T) (u : ks_up S S1 L) (hL : ∀ x ∈ L, x < 284 ∧ x ≠ 41 ∧ x ≠ 42 ∧ x ≠ 55 ∧ x ≠ 43) (a0 : S1.2.2 0 = some (jdO dc1 dp1 dt1 (nI rs1))) (a1 : bfS S1 1 2 1600 (some T1)) (a3 : (∃ o, bfS S1 3 4 1600 o) ∨ (3 ∉ L ∧ 4 ∉ L)) (a5 : (∃ o, bfS S1 5 6 8000 o) ∨ (5 ∉ L ∧ 6 ∉ L)) (az : mcZ S1 ∨ (hsO S1 ∨ ∀ x ∈ L, x < 7 ∨ 13 < x) ∧ ∀ x ∈ L, x < 14 ∨ (20 ≤ x ∧ x ≤ 26) ∨ 40 < x) (av : tvR S1 ∨ ∀ x ∈ L, x < 20 ∨ 26 < x) (at9 : (∃ N, tg_ok S1 N) ∨ ∀ x ∈ L, x < 44 ∨ 47 < x) (a48 : (∃ f, S1.2.2 48 = some (kL 11 f)) ∨ 48 ∉ L) (a49 : (∃ g, kO g ∧ S1.2.2 49 = some (kB 32 g)) ∨ 49 ∉ L) (a50 : 50 ∉ L ∧ 51 ∉ L) (a53 : (∃ g, kO g ∧ S1.2.2 53 = some (kB 384 g)) ∨ 53 ∉ L) (a54 : (∃ g, kO g ∧ S1.2.2 54 = some (kB 32 g)) ∨ 54 ∉ L) (ad : dfS S1 Ds1) : cqS S1 n best B dc1 dp1 dt1 rs1 Ds1 T1 := by
  obtain ⟨⟨c0, cst, c1, ⟨o3, c3⟩, o5, c5⟩, ⟨cz, cv, N, ct⟩, ⟨⟨f43, c43⟩, ⟨f48, c48⟩, ⟨g49, k49, c49⟩, ⟨f50, c50⟩, ⟨f51, c51⟩, ⟨g53, k53, c53⟩, ⟨g54, k54, c54⟩, c55⟩, -, ⟨cc, tk, x1, ⟨bf, x2, x3⟩, x4, x5⟩, ⟨sl, ⟨⟨bf2, y1, y2, y3⟩, y4⟩, N1, N2⟩, ⟨t1, t2, t3⟩, u1, u2, u3⟩ := h
  have nl : ∀ x, (284 ≤ x ∨ x = 41 ∨ x = 42 ∨ x = 55 ∨ x = 43) → x ∉ L := fun x h1 hm => by have := hL x hm; omega
  refine ⟨⟨a0, fun i q hq => u.at (cst i q hq) (nl _ (Or.inl (by unfold ks_B; omega))), a1, ?_, ?_⟩, ⟨?_, ?_, ?_⟩, ⟨⟨f43, u.at c43 (nl _ (by decide))⟩, ?_, ?_, ⟨f50, u.at c50 a50.1⟩, ⟨f51, u.at c51 a50.2⟩, ?_, ?_, u.at c55 (nl _ (by decide))⟩, ad, ⟨cc, tk, u.at x1 (nl _ (by decide)), ⟨bf, u.at x2 (nl _ (by decide)), x3⟩, fun i hi => ?_, x5⟩, ⟨sl, ⟨⟨bf2, u.at y1 (nl _ (by decide)), y2, y3⟩, fun b hb => ?_⟩, N1, N2⟩, ⟨by rw [u.1]; exact t1, by rw [u.1]; exact t2, fun i hi => by rw [u.1]; exact t3 i hi⟩, u1, u2, u3⟩
  · rcases a3 with a3 | a3
    · exact a3
    · exact ⟨o3, c3.ag (u.2.2 _ a3.2) (u.2.2 _ a3.1)⟩
  · rcases a5 with a5 | a5
    · exact a5
    · exact ⟨o5, c5.ag (u.2.2 _ a5.2) (u.2.2 _ a5.1)⟩
  · rcases az with az | ⟨hh, az⟩
    · exact az
    · refine mcZ_ex cz u.ex9 ?_ az t1
      rcases hh with hh | hh
      · exact hh
      · exact hs_ag cz.1.2.1 (fun a h1 h2 => u.2.2 a (fun hm => by have := hh a hm; omega))
  · rcases av with av | av
    · exact av
    · exact cv.ag (fun a h1 h2 => u.2.2 a (fun hm => by have := av a hm; omega))
  · rcases at9 with at9 | at9
    · exact at9
    · exact ⟨N, ct.ag (fun a h1 h2 => u.2.2 a (fun hm => by have := at9 a hm; omega))⟩
  · rcases a48 with h | h
    · exact h
    · exact ⟨f48, u.at c48 h⟩
  · rcases a49 with h | h
    · exact h
    · exact ⟨g49, k49, u.at c49 h⟩
  · rcases a53 with h | h
    · exact h
    · exact ⟨g53, k53, u.at c53 h⟩
  · rcases a54 with h | h
    · exact h
    · exact ⟨g54, k54, u.at c54 h⟩
  · obtain ⟨g1, f2, g3, g4, ⟨b1, b2, b3, b4, b5, b6⟩, z2, z3, z4, z5, z6, z7, z8⟩ := x4 i hi
    have hb : 284 ≤ bkN (B i) := (N1 i hi).1.1
    exact ⟨g1, f2, g3, g4, ⟨u.at b1 (nl _ (by omega)), u.at b2 (nl _ (by omega)), u.at b3 (nl _ (by omega)), u.at b4 (nl _ (by omega)), u.at b5 (nl _ (by omega)), b6⟩, z2, z3, z4, z5, z6, z7, fun c hc => ⟨u.at (z8 c hc).1 (nl _ (Or.inl ((N1 i hi).2 c hc).1)), (z8 c hc).2⟩⟩
  · obtain ⟨q1, q2, len, cnt, par, hei, g1, f2, g3, g4, ⟨b1, b2, b3, b4, b5, b6⟩⟩ := y4 b hb
    have hb9 : 284 ≤ b := (N2 b hb).1
    exact ⟨by rw [u.1]; exact q1, q2, len, cnt, par, hei, g1, f2, g3, g4, ⟨u.at b1 (nl _ (by omega)), u.at b2 (nl _ (by omega)), u.at b3 (nl _ (by omega)), u.at b4 (nl _ (by omega)), u.at b5 (nl _ (by omega)), b6⟩⟩
theorem kl_P.mono {l : Launch} {G : ks_G} {y : MethodName} {M : ks_M} {hh : List (Nat × Nat × Nat × Nat)} {d : Nat} {As : List Value} {S : ks_S} {P P' : Option Value → ks_S → Prop} (h : kl_P l G y M hh d As S P) (hp : ∀ v S', P v S' → P' v S') : kl_P l G y M hh d As S P' := by
  obtain ⟨v, S', a, b⟩ := h
  exact ⟨v, S', a, hp v S' b⟩
/-- the two sides' blocks are alike but for the coins -/
def lwR (n : Nat) (Bc Br : Nat → Bk) : Prop := ∀ i, bkM (Br i) = bkM (Bc i) ∧ bkP (Br i) = bkP (Bc i) ∧ bkH (Br i) = bkH (Bc i) ∧ bkW (Br i) = bkW (Bc i) ∧ bkD (Br i) = bkD (Bc i)
abbrev lwK : Type := Nat → Nat → (Nat → Bk) → (Nat → Bk) → List Nat → Prop
/-- between two calls of the law: c calls so far, o the row for answers; K what holds of the coins -/
def lwI (K : lwK) (o c : Nat) (S : ks_S) : Prop := ∃ (n best : Nat) (Bc Br : Nat → Bk) (C R : List Nat) (t q : Nat) (dt : Int64) (rs : Nat) (Ds D : Nat → dTx) (T : List Nat) (V : Nat → Value) (F : Nat), cqS S n best Bc t q dt rs Ds T ∧ rqS S V F n best Br C R t D T q dt rs ∧ (best < n ∧ t ≤ 12 ∧ q < n ∧ lwR n Bc Br ∧ (∀ i, i < t → D i = Ds i) ∧ K n best Bc Br C) ∧ ((∃ f, S.2.2 o = some (kJ 1 f)) ∧ 565 ≤ o ∧ o < S.1) ∧ S.1 + F ≤ 4000 + 6 * c + 100 * n ∧ S.2.1 + 520 * F ≤ 2100000 + 2100 * c + 30000 * n
/-- a call of both sides, with an int for an answer -/
def opI (l : Launch) (G : ks_G) (K : lwK) (o c : Nat) (yL : MethodName) (mL : ks_M) (hL : List (Nat × Nat × Nat × Nat)) (yR : MethodName) (mR : ks_M) (As : List Value) (S : ks_S) : Prop := ∃ (k : Nat) (Q : ks_S → Prop), k < 4 ∧ kl_P l G yL mL hL 17 (.ref 0 :: (As ++ [.ref o])) S (fun z S1 => z = some (.int (nI k)) ∧ Q S1) ∧ ∀ S1, Q S1 → (∃ V, S1.2.2 290 = some (rfE V)) ∧ ks_P l G yR mR 17 (.ref 290 :: As) S1 (fun z S2 => ∃ (w : Int32) (V2 : Nat → Value) (f : Nat → Int64), z = some (.int w) ∧ S2.2.2 290 = some (rfE V2) ∧ V2 111 = .int (nI k) ∧ S2.2.2 o = some (kJ 1 f) ∧ (k = 0 → f 0 = w.toInt64) ∧ lwI K o (c + 1) S2)
/-- the same with a long -/
def opJ (l : Launch) (G : ks_G) (K : lwK) (o c : Nat) (yL : MethodName) (mL : ks_M) (hL : List (Nat × Nat × Nat × Nat)) (yR : MethodName) (mR : ks_M) (As : List Value) (S : ks_S) : Prop := ∃ (k : Nat) (Q : ks_S → Prop), k < 4 ∧ kl_P l G yL mL hL 17 (.ref 0 :: (As ++ [.ref o])) S (fun z S1 => z = some (.int (nI k)) ∧ Q S1) ∧ ∀ S1, Q S1 → (∃ V, S1.2.2 290 = some (rfE V)) ∧ ks_P l G yR mR 17 (.ref 290 :: As) S1 (fun z S2 => ∃ (w : Int64) (V2 : Nat → Value) (f : Nat → Int64), z = some (.long w) ∧ S2.2.2 290 = some (rfE V2) ∧ V2 111 = .int (nI k) ∧ S2.2.2 o = some (kJ 1 f) ∧ (k = 0 → f 0 = w) ∧ lwI K o (c + 1) S2)
theorem lw_B : 200000 < ks_B := by unfold ks_B; decide
/-- behind the reference's call -/
theorem lw_ref {K : lwK} {o c : Nat} {S S2 : ks_S} {n best : Nat} {Bc Br : Nat → Bk} {C R : List Nat} {t q : Nat} {dt : Int64} {rs : Nat} {Ds D : Nat → dTx} {T : List Nat} {V V2 : Nat → Value} {F : Nat} {f : Nat → Int64} {L Fs : List Nat} {C0 : ks_S} (hC : cqS S n best Bc t q dt rs Ds T) (hR : rqS S2 V2 F n best Br C R t D T q dt rs) (p : pbK L Fs S S2 V V2) (hL : ∀ x ∈ L, 290 ≤ x ∧ x < 565) (hr : best < n ∧ t ≤ 12 ∧ q < n ∧ lwR n Bc Br ∧ (∀ i, i < t → D i = Ds i) ∧ K n best Bc Br C) (ho : S.2.2 o = some (kJ 1 f)) (h5 : 565 ≤ o) (h6 : o < S.1) (h1 : S.1 ≤ C0.1 + 1 ∧ S.2.1 ≤ C0.2.1 + 6) (r1 : C0.1 + F ≤ 4000 + 6 * c + 100 * n) (r2 : C0.2.1 + 520 * F ≤ 2100000 + 2100 * c + 30000 * n) : S2.2.2 o = some (kJ 1 f) ∧ lwI K o (c + 1) S2 := by
  have e1 : S2.1 = S.1 := p.1.1
  have e2 : S2.2.1 = S.2.1 := p.1.2.1
  have hz : S2.1 < ks_B := by rw [e1]; exact hC.2.2.2.2.2.2.1.2.1
  have ho2 : S2.2.2 o = some (kJ 1 f) := p.1.at ho (fun hm => by
    rcases List.mem_cons.mp hm with h | h
    · omega
    · have := hL o h; omega)
  exact ⟨ho2, n, best, Bc, Br, C, R, t, q, dt, rs, Ds, D, T, V2, F, hC.fr (p.fa hL).c ⟨by rw [e1]; exact Nat.le_refl _, hz⟩, hR, hr, ⟨⟨f, ho2⟩, h5, by rw [e1]; exact h6⟩, by omega, by omega⟩
