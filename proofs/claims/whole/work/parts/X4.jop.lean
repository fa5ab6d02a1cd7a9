/-! JUDGE on both sides: verdicts without a kept block -/
theorem lw_ref9 {K : lwK} {o c : Nat} {S S2 : ks_S} {n best : Nat} {Bc Br : Nat → Bk} {C R : List Nat} {t q : Nat} {dt : Int64} {rs : Nat} {Ds D : Nat → dTx} {T : List Nat} {V V2 : Nat → Value} {F : Nat} {f : Nat → Int64} {L Fs : List Nat} (hC : cqS S n best Bc t q dt rs Ds T) (hR : rqS S2 V2 F n best Br C R t D T q dt rs) (p : pbK L Fs S S2 V V2) (hL : ∀ x ∈ L, 290 ≤ x ∧ x < 565) (hr : best < n ∧ t ≤ 12 ∧ q < n ∧ lwR n Bc Br ∧ (∀ i, i < t → D i = Ds i) ∧ K n best Bc Br C) (ho : S.2.2 o = some (kJ 1 f)) (h5 : 565 ≤ o) (h6 : o < S.1) (r1 : S.1 + F ≤ 4000 + 6 * (c + 1) + 100 * n) (r2 : S.2.1 + 520 * F ≤ 2100000 + 2100 * (c + 1) + 30000 * n) : S2.2.2 o = some (kJ 1 f) ∧ lwI K o (c + 1) S2 := by
  have e1 : S2.1 = S.1 := p.1.1
  have e2 : S2.2.1 = S.2.1 := p.1.2.1
  have hz : S2.1 < ks_B := by rw [e1]; exact hC.2.2.2.2.2.2.1.2.1
  have ho2 : S2.2.2 o = some (kJ 1 f) := p.1.at ho (fun hm => by
    rcases List.mem_cons.mp hm with h | h
    · omega
    · have := hL o h; omega)
  exact ⟨ho2, n, best, Bc, Br, C, R, t, q, dt, rs, Ds, D, T, V2, F, hC.fr (p.fa hL).c ⟨by rw [e1]; exact Nat.le_refl _, hz⟩, hR, hr, ⟨⟨f, ho2⟩, h5, by rw [e1]; exact h6⟩, by omega, by omega⟩
/-- the reference's judge, to its verdict -/
theorem rj_X {l : Launch} {G : ks_G} {S S0 : ks_S} {V : Nat → Value} {F n best : Nat} {B : Nat → Bk} {C R : List Nat} {t : Nat} {D : Nat → dTx} {T : List Nat} {q : Nat} {dt : Int64} {rs : Nat} (e1 : S0.1 = S.1) (e2 : S0.2.1 = S.2.1) (e3 : ∀ a e, S0.2.2 a = some e → S.2.2 a = some e) (hR : rqS S0 V F n best B C R t D T q dt rs) (hW : chW n B) (hH : rbH n B) (hhei : ∀ i, i < n → bkH (B i) < 700) {P9 : Option Value → ks_S → Prop} (kR : ∀ (S1 : ks_S) (V1 : Nat → Value) (r : Nat), rqS S1 V1 F n best B C R t D [] q dt r → pbK LJe FJe S0 S1 V V1 → inF B n T = nI r → 0 < r → r < 20 → V1 111 = .int (nI 1) → P9 (some (.int (nI 0))) S1) (k3 : ∀ (S1 : ks_S) (V1 : Nat → Value), rqS S1 V1 F n best B C R t D [] q dt rs → pbK LJe FJe S0 S1 V V1 → inF B n T = -1 → V1 111 = .int (nI 0) → P9 (some (.int (nI 3))) S1) (k4 : ∀ (S1 : ks_S) (V1 : Nat → Value), rqS S1 V1 F n best B C R t D [] q dt rs → pbK LJe FJe S0 S1 V V1 → inF B n T = -2 → V1 111 = .int (nI 0) → P9 (some (.int (nI 4))) S1) (k0 : ∀ (S1 : ks_S) (V1 : Nat → Value) (p : Nat) (g : Nat → Nat), rqS S1 V1 F n best B C R t D [] q dt rs → pbK LJe FJe S0 S1 V V1 → inF B n T = nI 0 → inQ B n T = p + 1 → p < n → blk_ (mg T) T.length = true → tg_num (btB T) ≠ 0 → V1 111 = .int (nI 0) → S1.2.2 531 = some (kB 1600 g) → kO g → (∀ j, j < T.length → g j = mg T j) → ks_X l G mX16_judge (2 + 15) 172 [(0, .ref 290), (1, .int (nI T.length)), (2, .int (nI p))] [] S1 P9) : ks_P l G yX16_judge mX16_judge 17 [.ref 290] S P9 := by
  have v55 := hR.2.2.2.2.2.2.2.2.2.1
  refine ks_of (by decide) rfl rfl (Nat.le_of_ble_eq_true rfl) ?_
  show ks_X l G mX16_judge (2 + 15) 0 [(0, .ref 290)] [] S _
  refine ks_X_le e1 e2 e3 (l_jgI (d := 2) hR.1.1 hR.2.2.2.2.2.2.2.1 hR.2.2.2.1.1 hR.2.2.1 hW hH hhei hR.1.rw hR.1.2.2.2.2.2.2.2.2.2.2.1 (hR.1.s (p := (354, 0, 32)) (by decide)) (fun S1 V1 r e a b d h55 h => kR S1 V1 r (hR.jg e h55) e.1 a b d h) (fun S1 V1 e a h55 h => k3 S1 V1 (hR.jg e (h55.trans v55)) e.1 a h) (fun S1 V1 e a h55 h => k4 S1 V1 (hR.jg e (h55.trans v55)) e.1 a h) (fun S1 V1 p g e a b d h1 h2 h55 h h6 h7 h8 => k0 S1 V1 p g (hR.jg e (h55.trans v55)) e.1 a b d h1 h2 h h6 h7 h8))
theorem inF_r (B : Nat → Bk) (n : Nat) (M : List Nat) : inF B n M = -1 ∨ inF B n M = -2 ∨ ∃ r, r < 20 ∧ inF B n M = nI r := by
  unfold inF
  split
  · exact Or.inr (Or.inr ⟨1, by decide, rfl⟩)
  · split
    · exact Or.inl rfl
    · split
      · exact Or.inr (Or.inr ⟨2, by decide, rfl⟩)
      · split
        · exact Or.inr (Or.inl rfl)
        · have := ffF_lt B M (inQ B n M - 1)
          unfold ffF at this
          split
          · next h => rw [if_pos h] at this; exact Or.inr (Or.inr ⟨_, this, rfl⟩)
          · next h => rw [if_neg h] at this; exact Or.inr (Or.inr ⟨_, this, rfl⟩)
theorem nI_20 : ∀ a, a < 20 → ∀ b, b < 20 → nI a = nI b → a = b := by decide +kernel
theorem nI_20m : ∀ a, a < 20 → nI a ≠ -1 ∧ nI a ≠ -2 := by decide +kernel
/-- behind the class: its state, and the reference's -/
def jgW (S S0 : ks_S) (V : Nat → Value) (F n best : Nat) (Bc Br : Nat → Bk) (C R : List Nat) (t q : Nat) (dt : Int64) (rs rs1 : Nat) (Ds D : Nat → dTx) (T : List Nat) : Prop := cqS S0 n best Bc t q dt rs1 Ds [] ∧ rqS (ks_cl S0) V F n best Br C R t D T q dt rs ∧ (S.1 ≤ S0.1 ∧ S0.1 ≤ S.1 + 5 ∧ S0.2.1 ≤ S.2.1 + 2040)
theorem jgW_in {S S2 S3 : ks_S} {V : Nat → Value} {F n best : Nat} {Bc Br : Nat → Bk} {C R : List Nat} {t q : Nat} {dt : Int64} {rs : Nat} {Ds D : Nat → dTx} {T T0 : List Nat} {cc : Int32} {tk : Int64} {sl : Option Nat} {z : Option Value} {o : Nat} {f : Nat → Int64} (hC : cqS S n best Bc t q dt rs Ds T) (hR : rqS S V F n best Br C R t D T q dt rs) (hr : S.1 + F + 50 < ks_B) (hF : chF S n Bc sl) (hN : cqN n Bc sl) (hp : inP S n best cc tk Bc sl T0 z S2) (u3 : ks_up S2 S3 [2, 1]) (hb : bfS S3 1 2 1600 (some [])) (ho : S.2.2 o = some (kJ 1 f)) (ho5 : 565 ≤ o) (hoS : o < S.1) : jgW S S3 V F n best Bc Br C R t q dt rs rs Ds D T ∧ S3.2.2 o = some (kJ 1 f) := by
  have hS := hR.2.2.2.2.2.2.2.2.2.2
  obtain ⟨hC3, b, u, ⟨z1, z2⟩, hsl⟩ := cq_in (rs1 := rs) hC hS (by omega) hN hp u3 hb (fun _ => trivial)
  have m3 : ∀ x ∈ 2 :: 1 :: LI b, x < 290 ∨ (b ≤ x ∧ x < b + 5) := fun x hx => by
    rcases List.mem_cons.mp hx with h | hx
    · omega
    rcases List.mem_cons.mp hx with h | hx
    · omega
    rcases LI_mem hx with h | h | h
    · have : ∀ x ∈ LIn, x < 290 := by decide
      exact Or.inl (this x h)
    · omega
    · exact Or.inr h
  have hb9 : b + 4 < 290 ∨ 565 ≤ b := by
    rcases hsl with e | ⟨-, e⟩
    · exact (hN.2 b e).2
    · omega
  have no : o ∉ 2 :: 1 :: LI b := fun hm => by
    rcases m3 o hm with w | w
    · omega
    · rcases hsl with e | ⟨-, e⟩
      · obtain ⟨q1, q2, len, cnt, par, hei, g1, f2, g3, g4, k0, k1, k2, k3, k4, -⟩ := hF.2 b e
        have hk : o = b ∨ o = b + 1 ∨ o = b + 2 ∨ o = b + 3 ∨ o = b + 4 := by omega
        rcases hk with q | q | q | q | q
        · rw [q, k0] at ho; cases ho
        · rw [q, k1] at ho; cases ho
        · rw [q, k2] at ho; cases ho
        · rw [q, k3] at ho; cases ho
        · rw [q, k4] at ho; cases ho
      · omega
  refine ⟨⟨hC3, hR.ex9 hC hC3 u (fun x hx => ?_) (by omega), u.1, z1, z2⟩, u.at ho no (Or.inl hoS)⟩
  rcases m3 x hx with w | w
  · exact Or.inl w
  · rcases hb9 with w2 | w2
    · exact Or.inl (by omega)
    · exact Or.inr ⟨by omega, sl_rq hR hF hsl w.1 w.2 (by omega)⟩
