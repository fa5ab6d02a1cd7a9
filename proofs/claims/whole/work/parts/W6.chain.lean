/-! THE CHAIN of connects on both sides -/
theorem cnF_G {n : Nat} {B : Nat → Bk} {b h : Nat} (hb : b < n) : ∀ (u t : Nat) (L : List Nat) (left : Nat), t + u = mg (bkM (B b)) 80 → (∀ x ∈ L, cnG n B x) → ∀ x ∈ (cnF B (bkM (B b)) b h u t L left).2, cnG n B x
  | 0, t, L, left, _, hL => by
    unfold cnF
    split <;> exact hL
  | u + 1, t, L, left, hu, hL => by
    unfold cnF
    split
    · next c0 =>
      split
      · exact hL
      · exact cnF_G hb u 1 _ left (by omega) (adC_G hb (by omega) _ _ L (by omega) hL)
    · split
      · exact hL
      · split
        · exact hL
        · split
          · exact hL
          · split
            · exact hL
            · exact cnF_G hb u (t + 1) _ _ (by omega) (adC_G hb (by omega) _ _ _ (by omega) (tkN_G hL))
theorem sbL_C {B0 : Nat → Bk} {n x : Nat} : ∀ (u i : Nat) (B : Nat → Bk) (j : Nat), bkC (sbL B0 n x u i B j) = bkC (B j)
  | 0, i, B, j => rfl
  | u + 1, i, B, j => by
    unfold sbL
    rw [sbL_C u]
    by_cases c : j = i
    · rw [c, va_up_self]; rfl
    · rw [va_up_ne _ _ c]
theorem upP_e {B B' : Nat → Bk} (h : ∀ i, bkP (B' i) = bkP (B i)) (b : Nat) : upP B' b = upP B b := by
  have e : ∀ f k, upL B' f k = upL B f k := by
    intro f
    induction f with
    | zero => intro k; rfl
    | succ f ih => intro k; unfold upL; rw [h, ih]
  unfold upP
  rw [e]
theorem cRel_e {B B' : Nat → Bk} (h : ∀ i, bkM (B' i) = bkM (B i) ∧ bkH (B' i) = bkH (B i)) {R X : List Nat} (k : cRel B R X) : cRel B' R X := by
  unfold cRel kyU at k ⊢
  rw [keR_n, nB_e h, ← keR_n]
  exact k
/-- the coins of each block are those that connecting along its path gives -/
def kcI (n : Nat) (B : Nat → Bk) : Prop := ∀ i, i < n → ∀ c, bkC (B i) = some c → ∃ R, ptF gpG B (upP B i) [] = (0, R) ∧ cRel B R (c.2.map fiC)
theorem kcI.st {n : Nat} {B : Nat → Bk} (hK : kcI n B) {b r : Nat} {L R1 : List Nat} (h1 : ptF gpG B (upP B b) [] = (0, R1)) (h2 : cRel B R1 (L.map fiC)) : kcI n (cnB B b r L) := fun i hi c hc => by
  have hm : ∀ i, bkM (cnB B b r L i) = bkM (B i) ∧ bkH (cnB B b r L i) = bkH (B i) := fun i => ⟨(cnB_M B b r L i).1, (cnB_M B b r L i).2.2.2.1⟩
  have hp : ∀ i, bkP (cnB B b r L i) = bkP (B i) := fun i => (cnB_M B b r L i).2.2.1
  rw [ptF_e hm, upP_e hp]
  by_cases e : i = b
  · have ec : c = (r, L) := by
      unfold cnB at hc
      rw [e, va_up_self] at hc
      exact (Option.some.inj hc).symm
    rw [e, ec]
    exact ⟨R1, h1, cRel_e hm h2⟩
  · have ec : bkC (B i) = some c := by
      unfold cnB at hc
      rw [va_up_ne _ _ e] at hc
      exact hc
    obtain ⟨R, q1, q2⟩ := hK i hi c ec
    exact ⟨R, q1, cRel_e hm q2⟩
theorem rch_rel {n : Nat} (hG : ∀ M t i, gdM M t i = gdR gpG M t i) (hn : n ≤ 60) : ∀ (Q : List Nat) (Bc Br : Nat → Bk) (q r : Nat) (R : List Nat), (∀ i, bkM (Br i) = bkM (Bc i) ∧ bkH (Br i) = bkH (Bc i)) → chW n Bc → blV n Bc → (∀ b, b < n → inD (bkM (Bc b))) → chC n Bc → kcI n Bc → q < n → cqOK Bc n q Q → (∃ c, bkC (Bc q) = some c ∧ cRel Bc R (c.2.map fiC)) → ptF gpG Bc (upP Bc q) [] = (0, R) → (∀ i, i < n → (bkC (Br i)).isSome = (bkC (Bc i)).isSome) → (rchF gpG n Q Br R).1 = (cnA Bc r Q).2.1 ∧ kcI n (cnA Bc r Q).1 ∧ (∀ i, i < n → (bkC ((rchF gpG n Q Br R).2.2 i)).isSome = (bkC ((cnA Bc r Q).1 i)).isSome) ∧ ((cnA Bc r Q).2.1 = 0 → ∃ c, bkC ((cnA Bc r Q).1 (cqE q Q)) = some c ∧ cRel Bc (rchF gpG n Q Br R).2.1 (c.2.map fiC) ∧ ptF gpG Bc (upP Bc (cqE q Q)) [] = (0, (rchF gpG n Q Br R).2.1))
  | [], Bc, Br, q, r, R, hm, hW, hV, hd, hC, hK, hq, hcq, ⟨c, hc1, hc2⟩, hp, hfl => ⟨rfl, hK, hfl, fun _ => ⟨c, hc1, hc2, hp⟩⟩
  | b :: Q, Bc, Br, q, r, R, hm, hW, hV, hd, hC, hK, hq, ⟨hb, hbp, hbc, hqb, hcq⟩, ⟨c, hc1, hc2⟩, hp, hfl => by
    have hf : (bkC (Br b)).isSome = false := by rw [hfl b hb, hbc]; rfl
    have eC : cnC Bc b = c.2 := by
      unfold cnC
      rw [hbp, Nat.add_sub_cancel, hc1]
    have hcL : ∀ x ∈ c.2, cnG n Bc x := hC q c hq hc1
    have k1 := cnF_k (h := bkH (Bc b)) hG hV hn hb (mg (bkM (Bc b)) 80) 0 c.2 0 (by omega) hcL
    have k2 := rc_rel (Gp := gpG) (h := bkH (Bc b)) hV hb (hd b hb) (mg (bkM (Bc b)) 80) 0 R (c.2.map fiC) 0 (by omega) hc2
    have eO : cnO Bc b = cnF Bc (bkM (Bc b)) b (bkH (Bc b)) (mg (bkM (Bc b)) 80) 0 c.2 0 := by unfold cnO; rw [eC]
    have eR : (rcF gpG false Br (bkM (Br b)) b (bkH (Br b)) (mg (bkM (Br b)) 80) 0 R 0) = rcF gpG false Bc (bkM (Bc b)) b (bkH (Bc b)) (mg (bkM (Bc b)) 80) 0 R 0 := by rw [rcF_e hm, (hm b).1, (hm b).2]
    have er : rchF gpG n (b :: Q) Br R = if (rcF gpG false Br (bkM (Br b)) b (bkH (Br b)) (mg (bkM (Br b)) 80) 0 R 0).1 = 0 then rchF gpG n Q (ckB Br b) (rcF gpG false Br (bkM (Br b)) b (bkH (Br b)) (mg (bkM (Br b)) 80) 0 R 0).2 else ((rcF gpG false Br (bkM (Br b)) b (bkH (Br b)) (mg (bkM (Br b)) 80) 0 R 0).1, R, sbL Br n b (n - b) b Br) := by
      have e : rchF gpG n (b :: Q) Br R = if (rcF gpG (bkC (Br b)).isSome Br (bkM (Br b)) b (bkH (Br b)) (mg (bkM (Br b)) 80) 0 R 0).1 = 0 then rchF gpG n Q (ckB Br b) (rcF gpG (bkC (Br b)).isSome Br (bkM (Br b)) b (bkH (Br b)) (mg (bkM (Br b)) 80) 0 R 0).2 else ((rcF gpG (bkC (Br b)).isSome Br (bkM (Br b)) b (bkH (Br b)) (mg (bkM (Br b)) 80) 0 R 0).1, R, sbL Br n b (n - b) b Br) := rfl
      rw [e, hf]
    have ea : cnA Bc r (b :: Q) = if (cnO Bc b).1 = 0 then cnA (cnB Bc b r (cnO Bc b).2) (r + 1) Q else (Bc, (cnO Bc b).1, b) := rfl
    have e0 : (rcF gpG false Br (bkM (Br b)) b (bkH (Br b)) (mg (bkM (Br b)) 80) 0 R 0).1 = (cnO Bc b).1 := by rw [eR, eO, k1.1, k2.1]
    rw [er, ea, e0]
    by_cases c0 : (cnO Bc b).1 = 0
    · rw [if_pos c0, if_pos c0]
      obtain ⟨R1, eR1⟩ : ∃ R1, R1 = (rcF gpG false Br (bkM (Br b)) b (bkH (Br b)) (mg (bkM (Br b)) 80) 0 R 0).2 := ⟨_, rfl⟩
      rw [← eR1]
      obtain ⟨L1, eL1⟩ : ∃ L1, L1 = (cnO Bc b).2 := ⟨_, rfl⟩
      rw [← eL1]
      have hL1 : ∀ x ∈ L1, cnG n Bc x := by rw [eL1, eO]; exact cnF_G hb _ _ _ _ (by omega) hcL
      have hrel : cRel Bc R1 (L1.map fiC) := by
        rw [eR1, eR, eL1, eO, k1.2]
        exact k2.2 (by rw [← k1.1, ← eO]; exact c0)
      have hpt : ptF gpG Bc (upP Bc b) [] = (0, R1) := by
        refine ptF_s hW hb (by omega) (R := R) (by rw [hbp, Nat.add_sub_cancel]; exact hp) ?_
        have z : (rcF gpG false Bc (bkM (Bc b)) b (bkH (Bc b)) (mg (bkM (Bc b)) 80) 0 R 0).1 = 0 := by rw [← eR, e0]; exact c0
        rw [rcF_mono _ _ _ _ z, eR1, eR]
        exact Prod.ext z rfl
      have hmc : ∀ i, bkM (cnB Bc b r L1 i) = bkM (Bc i) ∧ bkH (cnB Bc b r L1 i) = bkH (Bc i) := fun i => ⟨(cnB_M Bc b r L1 i).1, (cnB_M Bc b r L1 i).2.2.2.1⟩
      have hpc : ∀ i, bkP (cnB Bc b r L1 i) = bkP (Bc i) := fun i => (cnB_M Bc b r L1 i).2.2.1
      have hck := eqB.ck Br b
      have ih := rch_rel hG hn Q (cnB Bc b r L1) (ckB Br b) b (r + 1) R1 (fun i => ⟨by rw [(hck i).2.1, (hm i).1, (hmc i).1], by rw [(hck i).2.2.2.1, (hm i).2, (hmc i).2]⟩) (hW.coin b r L1) (fun i hi => by rw [(hmc i).1]; exact hV i hi) (fun i hi => by rw [(hmc i).1]; exact hd i hi) (hC.coin hL1) (hK.st hpt hrel) hb (cqOK_set (Nat.le_refl _) hcq) ⟨(r, L1), by unfold cnB; rw [va_up_self]; rfl, cRel_e hmc hrel⟩ (by rw [ptF_e hmc, upP_e hpc]; exact hpt) (fun i hi => by
        unfold ckB cnB
        by_cases e : i = b
        · rw [if_pos e, e, va_up_self]; rfl
        · rw [if_neg e, va_up_ne _ _ e]; exact hfl i hi)
      obtain ⟨i1, i2, i3, i4⟩ := ih
      refine ⟨i1, i2, i3, fun h => ?_⟩
      obtain ⟨c9, j1, j2, j3⟩ := i4 h
      rw [ptF_e hmc, upP_e hpc] at j3
      exact ⟨c9, j1, cRel_e (fun i => ⟨(hmc i).1.symm, (hmc i).2.symm⟩) j2, j3⟩
    · rw [if_neg c0, if_neg c0]
      exact ⟨rfl, hK, fun i hi => by rw [sbL_C]; exact hfl i hi, fun h => absurd h c0⟩
