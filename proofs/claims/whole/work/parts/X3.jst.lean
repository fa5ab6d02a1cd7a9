/-! JUDGE on both sides: what the class leaves -/
theorem ks_X_le {l : Launch} {G : ks_G} {M : ks_M} {d pc : Nat} {lv : List (Nat × Value)} {st : List Value} {S S0 : ks_S} {P : Option Value → ks_S → Prop} (h1 : S0.1 = S.1) (h2 : S0.2.1 = S.2.1) (h3 : ∀ a e, S0.2.2 a = some e → S.2.2 a = some e) (k : ks_X l G M d pc lv st S0 P) : ks_X l G M d pc lv st S P := by
  obtain ⟨s1, s2, s3⟩ := S
  obtain ⟨t1, t2, t3⟩ := S0
  change t1 = s1 at h1
  change t2 = s2 at h2
  subst h1
  subst h2
  obtain ⟨v, S', ⟨hm, hV⟩, hP⟩ := k
  exact ⟨v, S', ⟨hm, fun p e R s m args below meth c H locs cells slots ls CC hH hS0 hl h1 h2 => hV p e R s m args below meth c H locs cells slots ls CC ⟨hH.1, hH.2.1, fun a e ha => hH.2.2.1 a e (h3 a e ha), hH.2.2.2⟩ hS0 hl h1 h2⟩, hP⟩
theorem ks_cl_le (S : ks_S) : ∀ a e, (ks_cl S).2.2 a = some e → S.2.2 a = some e := fun a e ha => by
  change (if S.1 ≤ a ∧ a < ks_B then none else S.2.2 a) = some e at ha
  split at ha
  · cases ha
  · exact ha
/-- a block of the class and one of the reference lie apart -/
theorem bk_rk {S : ks_S} {b : Nat} {len cnt par hei : Int32} {wk : Int64} {bad : Bool} {cr : Value} {g1 f2 g3 g4 : Nat → Nat} (hb : bkX S b len cnt par hei wk bad cr g1 f2 g3 g4) {r : Bk} (h : rkK S r) : b + 4 < bkN r ∨ bkN r + 11 < b := by
  obtain ⟨b0, b1, b2, b3, b4, -⟩ := hb
  obtain ⟨h1, hp, ⟨gh, h2, -⟩, ⟨gw, h3, -⟩, -⟩ := h
  obtain ⟨gy, A, gi, ⟨hy, -⟩, -, -, -, ⟨p1, p2, p3, -⟩, -⟩ := hp
  by_cases c : b + 4 < bkN r ∨ bkN r + 11 < b
  · exact c
  · exfalso
    have hk : b = bkN r ∨ b = bkN r + 1 ∨ b = bkN r + 2 ∨ b = bkN r + 3 ∨ (bkN r + 4 ≤ b ∧ b < bkN r + 10) ∨ b = bkN r + 10 ∨ b = bkN r + 11 ∨ bkN r = b + 1 ∨ bkN r = b + 2 ∨ bkN r = b + 3 ∨ bkN r = b + 4 := by omega
    rcases hk with e | e | e | e | e | e | e | e | e | e | e
    · rw [e, h1] at b0; cases b0
    · rw [e, hy] at b0; cases b0
    · rw [e, h2] at b0; cases b0
    · rw [e, p1] at b0; cases b0
    · have q := p2 (b - bkN r - 4) (by omega)
      rw [show bkN r + 3 + 1 + (b - bkN r - 4) = b by omega, b0] at q
      cases q
    · rw [e, show bkN r + 10 = bkN r + 3 + 7 by omega, p3] at b0; cases b0
    · rw [e, h3] at b0; cases b0
    · rw [e, b1] at h1; cases h1
    · rw [e, b2] at h1; cases h1
    · rw [e, b3] at h1; cases h1
    · rw [e, b4] at h1; cases h1
theorem bkX.no5 {S : ks_S} {b : Nat} {len cnt par hei : Int32} {wk : Int64} {bad : Bool} {cr : Value} {g1 f2 g3 g4 : Nat → Nat} (hb : bkX S b len cnt par hei wk bad cr g1 f2 g3 g4) {x : Nat} (h1 : b ≤ x) (h2 : x < b + 5) : ∀ g, S.2.2 x ≠ some (kB 520 g) := fun g e => by
  obtain ⟨b0, b1, b2, b3, b4, -⟩ := hb
  have hk : x = b ∨ x = b + 1 ∨ x = b + 2 ∨ x = b + 3 ∨ x = b + 4 := by omega
  rcases hk with q | q | q | q | q
  · rw [q, b0] at e; cases e
  · rw [q, b1] at e; exact no52_ne rfl g (Option.some.inj e)
  · rw [q, b2] at e; cases e
  · rw [q, b3] at e; exact no52_ne rfl g (Option.some.inj e)
  · rw [q, b4] at e; exact no52_ne rfl g (Option.some.inj e)
/-- the whole class again -/
theorem cqS.mk9 {S S1 : ks_S} {n best n1 best1 : Nat} {B B1 : Nat → Bk} {dc dp : Nat} {dt : Int64} {rs rs1 : Nat} {Ds : Nat → dTx} {T T1 : List Nat} {L : List Nat} (h : cqS S n best B dc dp dt rs Ds T) (u : ks_ex S S1 L) (hL : ∀ x ∈ L, (x < 3 ∨ (6 < x ∧ x < 52) ∨ 284 ≤ x) ∧ x < ks_B) (hS : 565 ≤ S.1) (a0 : S1.2.2 0 = some (jdO dc dp dt (nI rs1))) (a1 : bfS S1 1 2 1600 (some T1)) (mz : mcZ S1) (tv : tvR S1) (tg : ∃ N, tg_ok S1 N) (a43 : ∃ f, S1.2.2 43 = some (kN 60 f)) (a48 : ∃ f, S1.2.2 48 = some (kL 11 f)) (a49 : ∃ g, kO g ∧ S1.2.2 49 = some (kB 32 g)) (a50 : ∃ f, S1.2.2 50 = some (kN 580 f)) (a51 : ∃ f, S1.2.2 51 = some (kN 40 f)) (cx : ∃ cc tk, chX S1 n1 best1 cc tk B1) (cf : ∃ sl, chF S1 n1 B1 sl ∧ cqN n1 B1 sl) (ct : chT S1 n1 B1) (b0 : bkN (B1 0) = 284) (c0 : ∃ L, bkC (B1 0) = some (289, L)) (n0 : 0 < n1) : cqS S1 n1 best1 B1 dc dp dt rs1 Ds T1 := by
  obtain ⟨⟨-, cst, -, ⟨o3, c3⟩, o5, c5⟩, -, ⟨-, -, -, -, -, ⟨g53, k53, c53⟩, ⟨g54, k54, c54⟩, c55⟩, hd, -⟩ := h
  have nl : ∀ x, (3 ≤ x ∧ x ≤ 6) ∨ (52 ≤ x ∧ x < 284) → x ∉ L := fun x h1 hm => by have := hL x hm; omega
  have lt : ∀ x, x < 284 → x < S.1 ∨ ks_B ≤ x := fun x h1 => Or.inl (by omega)
  exact ⟨⟨a0, u.st cst (fun a ha => (hL a ha).2), a1, ⟨o3, bfS_ex c3 u (nl _ (by omega)) (nl _ (by omega)) (by omega) (by omega)⟩, o5, bfS_ex c5 u (nl _ (by omega)) (nl _ (by omega)) (by omega) (by omega)⟩, ⟨mz, tv, tg⟩, ⟨a43, a48, a49, a50, a51, ⟨g53, k53, u.at c53 (nl _ (by omega)) (lt _ (by omega))⟩, ⟨g54, k54, u.at c54 (nl _ (by omega)) (lt _ (by omega))⟩, u.at c55 (nl _ (by omega)) (lt _ (by omega))⟩, hd.ex u (fun x hx => by have := hL x hx; omega) (by omega), cx, cf, ct, b0, c0, n0⟩
/-- behind the class's look at a block: the slot b -/
theorem cq_in {S S2 S3 : ks_S} {n best : Nat} {B : Nat → Bk} {dc dp : Nat} {dt : Int64} {rs rs1 : Nat} {Ds : Nat → dTx} {T T0 : List Nat} {cc : Int32} {tk : Int64} {sl : Option Nat} {z : Option Value} (hC : cqS S n best B dc dp dt rs Ds T) (hS : 565 ≤ S.1) (hr : S.1 + 10 < ks_B) (hN : cqN n B sl) (hp : inP S n best cc tk B sl T0 z S2) (u3 : ks_up S2 S3 [2, 1]) (hb : bfS S3 1 2 1600 (some [])) (a0 : ∀ S4 : ks_S, True) : cqS S3 n best B dc dp dt rs Ds [] ∧ ∃ b, ks_ex S S3 (2 :: 1 :: LI b) ∧ (S3.1 ≤ S.1 + 5 ∧ S3.2.1 ≤ S.2.1 + 2040) ∧ (sl = some b ∨ (sl = none ∧ b = S.1)) := by
  obtain ⟨-, b, u, ⟨z1, z2⟩, hX, hF, hsl, hh, hv, ⟨N, ht⟩, ⟨f48, h48⟩, ⟨gr, kgr, h49⟩, -⟩ := hp
  have hb9 : 284 ≤ b ∧ (b + 4 < 290 ∨ 565 ≤ b) := by
    rcases hsl with e | ⟨-, e⟩
    · exact hN.2 b e
    · omega
  have m3 : ∀ x ∈ 2 :: 1 :: LI b, x = 1 ∨ x = 2 ∨ x ∈ LIn ∨ x = 42 ∨ (b ≤ x ∧ x < b + 5) := fun x hx => by
    rcases List.mem_cons.mp hx with h | hx
    · exact Or.inr (Or.inl h)
    rcases List.mem_cons.mp hx with h | hx
    · exact Or.inl h
    exact Or.inr (Or.inr (LI_mem hx))
  have lin : ∀ x ∈ LIn, (7 < x ∧ x < 14) ∨ (20 ≤ x ∧ x ≤ 26) ∨ x = 45 ∨ x = 48 ∨ x = 49 := by decide
  have u9 : ks_ex S S3 (2 :: 1 :: LI b) := (u.mono (fun a ha => List.mem_cons_of_mem _ (List.mem_cons_of_mem _ ha))).trans (u3.ex.mono (fun a ha => by
    rcases List.mem_cons.mp ha with h | h
    · rw [h]; exact List.mem_cons_self
    · rw [List.mem_singleton.mp h]; exact List.mem_cons_of_mem _ List.mem_cons_self))
  have w1 : S3.1 = S2.1 := u3.1
  have w2 : S3.2.1 = S2.2.1 := u3.2.1
  have hB9 := lw_B
  have hlb : b + 5 ≤ S2.1 := (hF.2 b rfl).1
  have hL : ∀ x ∈ 2 :: 1 :: LI b, (x < 3 ∨ (6 < x ∧ x < 52) ∨ 284 ≤ x) ∧ x < ks_B := fun x hx => by
    rcases m3 x hx with h | h | h | h | h
    · omega
    · omega
    · have := lin x h; omega
    · omega
    · omega
  have h64 : 64 ≤ S.1 := by omega
  have n56 : ∀ x ∈ ([2, 1] : List Nat), x < 56 ∧ x ≠ 42 := by decide
  have hh3 : hsO S3 := hs_ag hh (fun a h1 h2 => u3.2.2 a (by simp only [List.mem_cons, List.not_mem_nil, or_false]; omega))
  refine ⟨?_, b, u9, ⟨by omega, by omega⟩, hsl⟩
  have m43 : 43 ∉ 2 :: 1 :: LI b := fun hm => by
    rcases m3 _ hm with h | h | h | h | h
    · omega
    · omega
    · exact absurd h (by decide)
    · omega
    · omega
  have m50 : 50 ∉ 2 :: 1 :: LI b := fun hm => by
    rcases m3 _ hm with h | h | h | h | h
    · omega
    · omega
    · exact absurd h (by decide)
    · omega
    · omega
  have m51 : 51 ∉ 2 :: 1 :: LI b := fun hm => by
    rcases m3 _ hm with h | h | h | h | h
    · omega
    · omega
    · exact absurd h (by decide)
    · omega
    · omega
  have m0 : 0 ∉ 2 :: 1 :: LI b := fun hm => by
    rcases m3 _ hm with h | h | h | h | h
    · omega
    · omega
    · exact absurd h (by decide)
    · omega
    · omega
  obtain ⟨f43, h43⟩ := hC.2.2.1.1
  obtain ⟨f50, h50⟩ := hC.2.2.1.2.2.2.1
  obtain ⟨f51, h51⟩ := hC.2.2.1.2.2.2.2.1
  exact hC.mk9 u9 hL hS (u9.at hC.1.1 m0 (Or.inl (by omega))) hb (mcZ_ex hC.2.1.1 u9 hh3 (fun x hx => by
    rcases m3 x hx with h | h | h | h | h
    · omega
    · omega
    · have := lin x h; omega
    · omega
    · omega) h64) (hv.up2 u3 (by decide)) ⟨N, ht.ag (fun a h1 h2 => u3.2.2 a (by simp only [List.mem_cons, List.not_mem_nil, or_false]; omega))⟩ ⟨f43, u9.at h43 m43 (Or.inl (by omega))⟩ ⟨f48, u3.at h48 (by decide)⟩ ⟨gr, kgr, u3.at h49 (by decide)⟩ ⟨f50, u9.at h50 m50 (Or.inl (by omega))⟩ ⟨f51, u9.at h51 m51 (Or.inl (by omega))⟩ ⟨cc, tk, hX.up u3 (by decide)⟩ ⟨some b, hF.up u3 n56, ⟨hN.1, fun b9 e => by rw [← Option.some.inj e]; exact hb9⟩⟩ (hC.2.2.2.2.2.2.1.ex u9 (by omega)) hC.2.2.2.2.2.2.2.1 hC.2.2.2.2.2.2.2.2.1 hC.2.2.2.2.2.2.2.2.2
/-- what the class writes leaves the reference as it was -/
theorem rqS.ex9 {S S1 : ks_S} {V : Nat → Value} {F n best n2 best2 : Nat} {B Bc : Nat → Bk} {C R : List Nat} {t : Nat} {D : Nat → dTx} {T : List Nat} {q : Nat} {dt : Int64} {rs : Nat} {L : List Nat} {dc dp : Nat} {dt2 : Int64} {rs2 : Nat} {Ds : Nat → dTx} {T2 : List Nat} {best9 n9 : Nat} {B9 : Nat → Bk} {dc9 dp9 : Nat} {dt9 : Int64} {rs9 : Nat} {Ds9 : Nat → dTx} {T9 : List Nat} (h : rqS S V F n best B C R t D T q dt rs) (hC : cqS S n9 best9 B9 dc9 dp9 dt9 rs9 Ds9 T9) (hC1 : cqS S1 n2 best2 Bc dc dp dt2 rs2 Ds T2) (u : ks_ex S S1 L) (hL : ∀ x ∈ L, x < 290 ∨ (565 ≤ x ∧ (∀ g, S.2.2 x ≠ some (kB 520 g)) ∧ ∀ j, j < n → x < bkN (B j) ∨ bkN (B j) + 11 < x)) (hr : S1.1 + F + 2 < ks_B) : rqS (ks_cl S1) V F n best B C R t D T q dt rs := by
  have nw := h.1.nw.1
  have rb := h.2.2.1.2.1
  refine h.cl (L := L) (S1 := ks_cl S1) (fun a e h1 h2 => ?_) (fun x hx => by rcases hL x hx with w | w <;> omega) (fun x hx j hj => ?_) (fun x hx g e => ?_) (ks_cl_nw S1) hr (fun a ha => ?_) u.1
  · have hm : a < S.1 ∨ ks_B ≤ a := by
      rcases Nat.lt_or_ge a S.1 with w | w
      · exact Or.inl w
      · rcases Nat.lt_or_ge a ks_B with w2 | w2
        · rw [nw a w w2] at h1; cases h1
        · exact Or.inr w2
    rw [ks_cl_at S1 (by have := u.1; omega)]
    exact u.at h1 h2 hm
  · rcases hL x hx with w | w
    · exact Or.inl (by have := (rb j hj).2.2.2.2.1; omega)
    · exact w.2.2 j hj
  · rcases hL x hx with w | w
    · obtain ⟨e1, h1, h2⟩ := cq_low hC x w
      rw [h1] at e
      exact clE_52 h2 g (Option.some.inj e)
    · exact w.2.1 g e
  · obtain ⟨e1, h1, h2⟩ := cq_low hC1 a ha
    exact ⟨e1, by rw [ks_cl_at S1 (Or.inl (by have := hC1.2.2.2.2.2.2.1; have := h.2.2.2.2.2.2.2.2.2.2; have := u.1; omega))]; exact h1, clE_52 h2⟩
/-- the slot of the class against the reference -/
theorem sl_rq {S : ks_S} {V : Nat → Value} {F n best : Nat} {B Bc : Nat → Bk} {C R : List Nat} {t : Nat} {D : Nat → dTx} {T : List Nat} {q : Nat} {dt : Int64} {rs : Nat} {sl : Option Nat} {b n9 : Nat} (h : rqS S V F n best B C R t D T q dt rs) (hF : chF S n9 Bc sl) (hsl : sl = some b ∨ (sl = none ∧ b = S.1)) {x : Nat} (h1 : b ≤ x) (h2 : x < b + 5) (hr : S.1 + 10 < ks_B) : (∀ g, S.2.2 x ≠ some (kB 520 g)) ∧ ∀ j, j < n → x < bkN (B j) ∨ bkN (B j) + 11 < x := by
  have nw := h.1.nw.1
  have rb := h.2.2.1.2.1
  rcases hsl with e | ⟨-, e⟩
  · obtain ⟨q1, q2, len, cnt, par, hei, g1, f2, g3, g4, hk⟩ := hF.2 b e
    refine ⟨hk.no5 h1 h2, fun j hj => ?_⟩
    have := bk_rk hk (rb j hj)
    omega
  · refine ⟨fun g e2 => ?_, fun j hj => ?_⟩
    · rw [nw x (by omega) (by omega)] at e2; cases e2
    · obtain ⟨-, -, -, ⟨gw, h3, -⟩, -⟩ := rb j hj
      refine Or.inr ?_
      rcases Nat.lt_or_ge (bkN (B j) + 11) S.1 with w | w
      · omega
      · have := (rb j hj).2.2.2.2.2
        rw [nw _ w (by omega)] at h3
        cases h3
