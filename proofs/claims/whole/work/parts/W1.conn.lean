/-! CONNECTING in the class, by the reference's names -/
theorem lkS_k {n : Nat} {B : Nat → Bk} {c : Nat} (hV : blV n B) (hn : n ≤ 60) (h : cnG n B c) : lkS B c = lkR B (fiC c) := by
  obtain ⟨b, t, o, ⟨hb, ht, ho, t12, o180⟩, hc, ⟨e1, e2, e3, e4⟩, f0, f1, f2, f3⟩ := cnG_f hV hn h
  have q := rc_sc (tx_out (bk_tx5 (hV b hb).2.1 ht) o ho).2.1
  unfold lkS lkR scA scZ
  rw [e1, e4, f1, f2, f3, q.1, q.2]
theorem ukM_k {n : Nat} {B : Nat → Bk} {M : List Nat} {t i c : Nat} (hG : gdM M t i = gdR gpG M t i) (hV : blV n B) (hn : n ≤ 60) (h : cnG n B c) : ukM B M t i c = ukR gpG B M t i (fiC c) := by
  unfold ukM ukR
  rw [hG, lkS_k hV hn h]
theorem fcR_0 {B : Nat → Bk} {M : List Nat} {t h : Nat} {R : List Nat} : ∀ (u i s : Nat), (fcR B M t h R u i s).1 = 0 → ∀ j, i ≤ j → j < i + u → fiR B M t R j ≠ 0
  | 0, i, s, _, j, h1, h2 => by omega
  | u + 1, i, s, h0, j, h1, h2 => by
    unfold fcR at h0
    split at h0
    · exact absurd (show (11 : Nat) = 0 from h0) (by decide)
    · next c =>
      split at h0
      · exact absurd (show (12 : Nat) = 0 from h0) (by decide)
      · split at h0
        · exact absurd (show (13 : Nat) = 0 from h0) (by decide)
        · by_cases e : j = i
          · rw [e]; exact c
          · exact fcR_0 u (i + 1) _ h0 j (by omega) (by omega)
/-- connecting a block, coins keep their order -/
def xcF (Gp : Pt) (B : Nat → Bk) (M : List Nat) (b h : Nat) : Nat → Nat → List Nat → Nat → Nat × List Nat
  | 0, _, R, left => if 5000000000 / 2 ^ (h / 12) + left < vaM M 0 then (15, R) else (0, R)
  | u + 1, t, R, left => if t = 0 then (if 400 < (radR B b 0 (txP M 0).2.2.1 0 R).length then (16, R) else xcF Gp B M b h u 1 (radR B b 0 (txP M 0).2.2.1 0 R) left)
    else if (fcR B M t h R (txP M t).1 0 0).1 ≠ 0 then ((fcR B M t h R (txP M t).1 0 0).1, R)
    else if (fcR B M t h R (txP M t).1 0 0).2 < vaM M t then (13, R)
    else if ∃ i, i < (txP M t).1 ∧ ukR Gp B M t i (R.getD (fiR B M t R i - 1) 0) = false then (14, R)
    else if 400 < (radR B b t (txP M t).2.2.1 0 (tkN (mkF (fun i => fiR B M t R i - 1) (txP M t).1) R R.length)).length then (16, R)
    else xcF Gp B M b h u (t + 1) (radR B b t (txP M t).2.2.1 0 (tkN (mkF (fun i => fiR B M t R i - 1) (txP M t).1) R R.length)) (left + ((fcR B M t h R (txP M t).1 0 0).2 - vaM M t))
theorem tkN_G {n : Nat} {B : Nat → Bk} {mk : Nat → Bool} {L : List Nat} (h : ∀ x ∈ L, cnG n B x) : ∀ x ∈ tkN mk L L.length, cnG n B x := fun x hx => by
  obtain ⟨j, hj, rfl⟩ := tkN_mem hx
  exact h _ (getD_mem hj)
theorem cnF_k {n : Nat} {B : Nat → Bk} {b h : Nat} (hG : ∀ M t i, gdM M t i = gdR gpG M t i) (hV : blV n B) (hn : n ≤ 60) (hb : b < n) : ∀ (u t : Nat) (L : List Nat) (left : Nat), t + u = mg (bkM (B b)) 80 → (∀ x ∈ L, cnG n B x) → (cnF B (bkM (B b)) b h u t L left).1 = (xcF gpG B (bkM (B b)) b h u t (L.map fiC) left).1 ∧ (cnF B (bkM (B b)) b h u t L left).2.map fiC = (xcF gpG B (bkM (B b)) b h u t (L.map fiC) left).2
  | 0, t, L, left, _, _ => by
    unfold cnF xcF
    split <;> exact ⟨rfl, rfl⟩
  | u + 1, t, L, left, hu, hL => by
    have hM := (hV b hb).2.2
    have ht : t < mg (bkM (B b)) 80 := by omega
    unfold cnF xcF
    by_cases c0 : t = 0
    · subst c0
      rw [if_pos rfl, if_pos rfl, ← adC_k hV hn hb ht _ _ L (by omega) hL, List.length_map]
      by_cases c1 : 400 < (adC B b 0 (txP (bkM (B b)) 0).2.2.1 0 L).length
      · rw [if_pos c1, if_pos c1]; exact ⟨rfl, rfl⟩
      · rw [if_neg c1, if_neg c1]
        exact cnF_k hG hV hn hb u 1 _ left (by omega) (adC_G hb ht _ _ L (by omega) hL)
    · rw [if_neg c0, if_neg c0, fcF_k hV hn hM hL]
      by_cases c1 : (fcR B (bkM (B b)) t h (L.map fiC) (txP (bkM (B b)) t).1 0 0).1 ≠ 0
      · rw [if_pos c1, if_pos c1]; exact ⟨rfl, rfl⟩
      · rw [if_neg c1, if_neg c1]
        by_cases c2 : (fcR B (bkM (B b)) t h (L.map fiC) (txP (bkM (B b)) t).1 0 0).2 < vaM (bkM (B b)) t
        · rw [if_pos c2, if_pos c2]; exact ⟨rfl, rfl⟩
        · rw [if_neg c2, if_neg c2]
          have hz := fcR_0 _ _ _ (Decidable.not_not.mp c1)
          have hf : ∀ i, fiP B (bkM (B b)) t L i = fiR B (bkM (B b)) t (L.map fiC) i := fun i => fiP_k hV hn hM hL
          have hk : ∀ i, i < (txP (bkM (B b)) t).1 → ukM B (bkM (B b)) t i (L.getD (fiP B (bkM (B b)) t L i - 1) 0) = ukR gpG B (bkM (B b)) t i ((L.map fiC).getD (fiR B (bkM (B b)) t (L.map fiC) i - 1) 0) := fun i hi => by
            have h1 := hz i (Nat.zero_le _) (by omega)
            rw [← hf] at h1 ⊢
            rw [getD_mp (fiP_in h1), ukM_k (hG _ _ _) hV hn (hL _ (getD_mem (fiP_in h1)))]
          have hex : (∃ i, i < (txP (bkM (B b)) t).1 ∧ ukM B (bkM (B b)) t i (L.getD (fiP B (bkM (B b)) t L i - 1) 0) = false) ↔ ∃ i, i < (txP (bkM (B b)) t).1 ∧ ukR gpG B (bkM (B b)) t i ((L.map fiC).getD (fiR B (bkM (B b)) t (L.map fiC) i - 1) 0) = false := ⟨fun ⟨i, h1, h2⟩ => ⟨i, h1, by rw [← hk i h1]; exact h2⟩, fun ⟨i, h1, h2⟩ => ⟨i, h1, by rw [hk i h1]; exact h2⟩⟩
          by_cases c3 : ∃ i, i < (txP (bkM (B b)) t).1 ∧ ukM B (bkM (B b)) t i (L.getD (fiP B (bkM (B b)) t L i - 1) 0) = false
          · rw [if_pos c3, if_pos (hex.mp c3)]; exact ⟨rfl, rfl⟩
          · rw [if_neg c3, if_neg (fun h => c3 (hex.mpr h))]
            have ek : tkN (mkF (fun i => fiR B (bkM (B b)) t (L.map fiC) i - 1) (txP (bkM (B b)) t).1) (L.map fiC) (L.map fiC).length = (tkN (mkF (fun i => fiP B (bkM (B b)) t L i - 1) (txP (bkM (B b)) t).1) L L.length).map fiC := by
              rw [tkN_mp (Nat.le_refl _), List.length_map]
              refine congrArg (fun m => tkN m (L.map fiC) L.length) ?_
              funext x
              exact congrArg (fun f => mkF f (txP (bkM (B b)) t).1 x) (funext fun i => by rw [hf])
            rw [ek, ← adC_k hV hn hb ht _ _ (tkN (mkF (fun i => fiP B (bkM (B b)) t L i - 1) (txP (bkM (B b)) t).1) L L.length) (by omega) (tkN_G hL), List.length_map]
            by_cases c4 : 400 < (adC B b t (txP (bkM (B b)) t).2.2.1 0 (tkN (mkF (fun i => fiP B (bkM (B b)) t L i - 1) (txP (bkM (B b)) t).1) L L.length)).length
            · rw [if_pos c4, if_pos c4]; exact ⟨rfl, rfl⟩
            · rw [if_neg c4, if_neg c4]
              exact cnF_k hG hV hn hb u (t + 1) _ _ (by omega) (adC_G hb ht _ _ _ (by omega) (tkN_G hL))
