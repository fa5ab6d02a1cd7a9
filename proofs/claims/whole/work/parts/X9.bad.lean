/-! CHAINS of both sides: what becomes bad, coins along the path -/
theorem rch_bad {n : Nat} (hG : ∀ M t i, gdM M t i = gdR gpG M t i) (hn : n ≤ 60) : ∀ (Q : List Nat) (Bc Br : Nat → Bk) (q r : Nat) (R : List Nat), (∀ i, bkM (Br i) = bkM (Bc i) ∧ bkH (Br i) = bkH (Bc i)) → chW n Bc → blV n Bc → (∀ b, b < n → inD (bkM (Bc b))) → chC n Bc → kcI n Bc → q < n → cqOK Bc n q Q → (∃ c, bkC (Bc q) = some c ∧ cRel Bc R (c.2.map fiC)) → ptF gpG Bc (upP Bc q) [] = (0, R) → (∀ i, i < n → (bkC (Br i)).isSome = (bkC (Bc i)).isSome) → ((cnA Bc r Q).2.1 = 0 → ∀ i, bkD ((rchF gpG n Q Br R).2.2 i) = bkD (Br i)) ∧ ((cnA Bc r Q).2.1 ≠ 0 → (cnA Bc r Q).2.2 < n ∧ ∀ i, bkD ((rchF gpG n Q Br R).2.2 i) = if (cnA Bc r Q).2.2 ≤ i ∧ i < n then (bkD (Br i) || decide (stL Br (cnA Bc r Q).2.2 n i = (cnA Bc r Q).2.2)) else bkD (Br i))
  | [], Bc, Br, q, r, R, hm, hW, hV, hd, hC, hK, hq, hcq, ⟨c, hc1, hc2⟩, hp, hfl => ⟨fun _ _ => rfl, fun h => absurd rfl h⟩
  | b :: Q, Bc, Br, q, r, R, hm, hW, hV, hd, hC, hK, hq, ⟨hb, hbp, hbc, hqb, hcq⟩, ⟨c, hc1, hc2⟩, hp, hfl => by
    have hf : (bkC (Br b)).isSome = false := by rw [hfl b hb, hbc]; rfl
    have eC : cnC Bc b = c.2 := by
      unfold cnC
      rw [hbp, Nat.add_sub_cancel, hc1]
    have hcL : ∀ x ∈ c.2, cnG n Bc x := hC q c hq hc1
    have k1 := cnF_k (h := bkH (Bc b)) hG hV hn hb (mg (bkM (Bc b)) 80) 0 c.2 0 (by omega) hcL
    have k2 := rc_rel (Gp := gpG) (h := bkH (Bc b)) hV hb (hd b hb) (mg (bkM (Bc b)) 80) 0 R (c.2.map fiC) 0 (by omega) hc2
    have eO : cnO Bc b = cnF Bc (bkM (Bc b)) b (bkH (Bc b)) (mg (bkM (Bc b)) 80) 0 c.2 0 := by unfold cnO; rw [eC]
    have eR : (rcF gpG false Br (bkM (Br b)) b (bkH (Br b)) (mg (bkM (Br b)) 80) 0 R 0) = rcF gpG false Bc (bkM (Bc b)) b (bkH (Bc b)) (mg (bkM (Bc b)) 80) 0 R 0 := by rw [rcF_e hm, (hm b).1, (hm b).2]
    have er : rchF gpG n (b :: Q) Br R = if (rcF gpG false Br (bkM (Br b)) b (bkH (Br b)) (mg (bkM (Br b)) 80) 0 R 0).1 = 0 then rchF gpG n Q (ckB Br b) (rcF gpG false Br (bkM (Br b)) b (bkH (Br b)) (mg (bkM (Br b)) 80) 0 R 0).2 else ((rcF gpG false Br (bkM (Br b)) b (bkH (Br b)) (mg (bkM (Br b)) 80) 0 R 0).1, R, sbL Br n b (n - b) b Br) := by
      have e : rchF gpG n (b :: Q) Br R = if (rcF gpG (bkC (Br b)).isSome Br (bkM (Br b)) b (bkH (Br b)) (mg (bkM (Br b)) 80) 0 R 0).1 = 0 then rchF gpG n Q (ckB Br b) (rcF gpG (bkC (Br b)).isSome Br (bkM (Br b)) b (bkH (Br b)) (mg (bkM (Br b)) 80) 0 R 0).2 else ((rcF gpG (bkC (Br b)).isSome Br (bkM (Br b)) b (bkH (Br b)) (mg (bkM (Br b)) 80) 0 R 0).1, R, sbL Br n b (n - b) b Br) := rfl
      rw [e, hf]
    have ea : cnA Bc r (b :: Q) = if (cnO Bc b).1 = 0 then cnA (cnB Bc b r (cnO Bc b).2) (r + 1) Q else (Bc, (cnO Bc b).1, b) := rfl
    have e0 : (rcF gpG false Br (bkM (Br b)) b (bkH (Br b)) (mg (bkM (Br b)) 80) 0 R 0).1 = (cnO Bc b).1 := by rw [eR, eO, k1.1, k2.1]
    rw [er, ea, e0]
    by_cases c0 : (cnO Bc b).1 = 0
    · rw [if_pos c0, if_pos c0]
      obtain ⟨R1, eR1⟩ : ∃ R1, R1 = (rcF gpG false Br (bkM (Br b)) b (bkH (Br b)) (mg (bkM (Br b)) 80) 0 R 0).2 := ⟨_, rfl⟩
      rw [← eR1]
      obtain ⟨L1, eL1⟩ : ∃ L1, L1 = (cnO Bc b).2 := ⟨_, rfl⟩
      rw [← eL1]
      have hL1 : ∀ x ∈ L1, cnG n Bc x := by rw [eL1, eO]; exact cnF_G hb _ _ _ _ (by omega) hcL
      have hrel : cRel Bc R1 (L1.map fiC) := by
        rw [eR1, eR, eL1, eO, k1.2]
        exact k2.2 (by rw [← k1.1, ← eO]; exact c0)
      have hpt : ptF gpG Bc (upP Bc b) [] = (0, R1) := by
        refine ptF_s hW hb (by omega) (R := R) (by rw [hbp, Nat.add_sub_cancel]; exact hp) ?_
        have z : (rcF gpG false Bc (bkM (Bc b)) b (bkH (Bc b)) (mg (bkM (Bc b)) 80) 0 R 0).1 = 0 := by rw [← eR, e0]; exact c0
        rw [rcF_mono _ _ _ _ z, eR1, eR]
        exact Prod.ext z rfl
      have hmc : ∀ i, bkM (cnB Bc b r L1 i) = bkM (Bc i) ∧ bkH (cnB Bc b r L1 i) = bkH (Bc i) := fun i => ⟨(cnB_M Bc b r L1 i).1, (cnB_M Bc b r L1 i).2.2.2.1⟩
      have hpc : ∀ i, bkP (cnB Bc b r L1 i) = bkP (Bc i) := fun i => (cnB_M Bc b r L1 i).2.2.1
      have hck := eqB.ck Br b
      have ih := rch_bad hG hn Q (cnB Bc b r L1) (ckB Br b) b (r + 1) R1 (fun i => ⟨by rw [(hck i).2.1, (hm i).1, (hmc i).1], by rw [(hck i).2.2.2.1, (hm i).2, (hmc i).2]⟩) (hW.coin b r L1) (fun i hi => by rw [(hmc i).1]; exact hV i hi) (fun i hi => by rw [(hmc i).1]; exact hd i hi) (hC.coin hL1) (hK.st hpt hrel) hb (cqOK_set (Nat.le_refl _) hcq) ⟨(r, L1), by unfold cnB; rw [va_up_self]; rfl, cRel_e hmc hrel⟩ (by rw [ptF_e hmc, upP_e hpc]; exact hpt) (fun i hi => by
        unfold ckB cnB
        by_cases e : i = b
        · rw [if_pos e, e, va_up_self]; rfl
        · rw [if_neg e, va_up_ne _ _ e]; exact hfl i hi)
      obtain ⟨i1, i2⟩ := ih
      have hD : ∀ i, bkD (ckB Br b i) = bkD (Br i) := fun i => by
        unfold ckB
        by_cases e : i = b
        · rw [if_pos e, e]; rfl
        · rw [if_neg e]
      refine ⟨fun h i => (i1 h i).trans (hD i), fun h => ⟨(i2 h).1, fun i => ?_⟩⟩
      rw [(i2 h).2 i, hD i, stL_c hck]
    · rw [if_neg c0, if_neg c0]
      refine ⟨fun h => absurd h c0, fun _ => ⟨hb, fun i => ?_⟩⟩
      rw [(sbL_D (n - b) b Br i).2, show b + (n - b) = n by omega]

theorem cnA_M : ∀ (Q : List Nat) (B : Nat → Bk) (r i : Nat), bkM ((cnA B r Q).1 i) = bkM (B i) ∧ bkN ((cnA B r Q).1 i) = bkN (B i) ∧ bkP ((cnA B r Q).1 i) = bkP (B i) ∧ bkH ((cnA B r Q).1 i) = bkH (B i) ∧ bkW ((cnA B r Q).1 i) = bkW (B i) ∧ bkD ((cnA B r Q).1 i) = bkD (B i)
  | [], _, _, _ => ⟨rfl, rfl, rfl, rfl, rfl, rfl⟩
  | b :: Q, B, r, i => by
    unfold cnA
    split
    · obtain ⟨a1, a2, a3, a4, a5, a6⟩ := cnA_M Q (cnB B b r (cnO B b).2) (r + 1) i
      obtain ⟨b1, b2, b3, b4, b5, b6⟩ := cnB_M B b r (cnO B b).2 i
      exact ⟨a1.trans b1, a2.trans b2, a3.trans b3, a4.trans b4, a5.trans b5, a6.trans b6⟩
    · exact ⟨rfl, rfl, rfl, rfl, rfl, rfl⟩
/-- coins that are there stay -/
theorem cnA_C {n : Nat} : ∀ (Q : List Nat) (B : Nat → Bk) (q r i : Nat) (c : Nat × List Nat), cqOK B n q Q → bkC (B i) = some c → bkC ((cnA B r Q).1 i) = some c
  | [], _, _, _, _, _, _, h => h
  | b :: Q, B, q, r, i, c, ⟨hb, hp, hc, hq, hok⟩, h => by
    unfold cnA
    split
    · refine cnA_C Q (cnB B b r (cnO B b).2) b (r + 1) i c (cqOK_set (Nat.le_refl _) hok) ?_
      have e : i ≠ b := fun e => by rw [e, hc] at h; cases h
      unfold cnB
      rw [va_up_ne _ _ e]
      exact h
    · exact h
theorem kcI_e {n : Nat} {B B' : Nat → Bk} (h : kcI n B) (e : ∀ i, bkM (B' i) = bkM (B i) ∧ bkH (B' i) = bkH (B i)) (ep : ∀ i, bkP (B' i) = bkP (B i)) (ec : ∀ i, bkC (B' i) = bkC (B i)) : kcI n B' := fun i hi c hc => by
  rw [ec] at hc
  obtain ⟨R, h1, h2⟩ := h i hi c hc
  exact ⟨R, by rw [ptF_e e, upP_e ep]; exact h1, cRel_e e h2⟩
theorem jg_rel {n : Nat} (hG : ∀ M t i, gdM M t i = gdR gpG M t i) (hn : n + 1 ≤ 60) {B1 Br1 : Nat → Bk} (hm : ∀ i, bkM (Br1 i) = bkM (B1 i) ∧ bkH (Br1 i) = bkH (B1 i)) (hp : ∀ i, bkP (Br1 i) = bkP (B1 i)) (hW : chW (n + 1) B1) (hV : blV (n + 1) B1) (hd : ∀ b, b < n + 1 → inD (bkM (B1 b))) (hC : chC (n + 1) B1) (hK : kcI (n + 1) B1) (hP : chP (n + 1) B1) (h00 : bkC (B1 0) ≠ none) (hs : ∀ i, i < n + 1 → (bkC (Br1 i)).isSome = (bkC (B1 i)).isSome) (r : Nat) {Q : List Nat} (eQ : Q = (clL B1 60 (n + 1)).reverse) : (∃ q, q < n + 1 ∧ cqOK B1 (n + 1) q Q) ∧ (rchT n Br1).1 = (cnA B1 r Q).2.1 ∧ kcI (n + 1) (cnA B1 r Q).1 ∧ chP (n + 1) (cnA B1 r Q).1 ∧ (∀ i, i < n + 1 → (bkC ((rchT n Br1).2.2 i)).isSome = (bkC ((cnA B1 r Q).1 i)).isSome) ∧ ((cnA B1 r Q).2.1 = 0 → (∃ c, bkC ((cnA B1 r Q).1 n) = some c ∧ cRel B1 (rchT n Br1).2.1 (c.2.map fiC)) ∧ ∀ i, bkD ((rchT n Br1).2.2 i) = bkD (Br1 i)) ∧ ((cnA B1 r Q).2.1 ≠ 0 → (cnA B1 r Q).2.2 < n + 1 ∧ ∀ i, bkD ((rchT n Br1).2.2 i) = if (cnA B1 r Q).2.2 ≤ i ∧ i < n + 1 then (bkD (Br1 i) || decide (stL Br1 (cnA B1 r Q).2.2 (n + 1) i = (cnA B1 r Q).2.2)) else bkD (Br1 i)) := by
  obtain ⟨q, c, hq, hc, hok, hE⟩ := cl_cq hW h00 (u := 60) (k := n + 1) (by omega) (Nat.le_refl _) hn
  rw [← eQ] at hok hE
  rw [Nat.add_sub_cancel] at hE
  obtain ⟨R, hpt, hrel⟩ := hK q hq c hc
  have path : upP B1 n = upP B1 q ++ Q := by rw [← hE]; exact cq_path hW Q q hok
  have eT : rchT n Br1 = rchF gpG (n + 1) (upP B1 q ++ Q) Br1 [] := by
    rw [← path, ← upP_e hp]
    rfl
  have fl : ∀ x ∈ upP B1 q, (bkC (Br1 x)).isSome = true := fun x hx => by
    rw [hs x (upP_mem hW hq x hx)]
    exact hP.all hW q q (Nat.le_refl _) hq (by rw [hc]; rfl) x hx
  obtain ⟨B2, e2, eq2, fl2⟩ := rch_flag (Gp := gpG) (n := n + 1) (upP B1 q) Br1 [] R fl (by rw [ptF_e hm]; exact hpt)
  rw [eT, rchF_app Q (upP B1 q) Br1 [] R B2 e2]
  have hm2 : ∀ i, bkM (B2 i) = bkM (B1 i) ∧ bkH (B2 i) = bkH (B1 i) := fun i => ⟨(eq2 i).2.1.trans (hm i).1, (eq2 i).2.2.2.1.trans (hm i).2⟩
  have hs2 : ∀ i, i < n + 1 → (bkC (B2 i)).isSome = (bkC (B1 i)).isSome := fun i hi => (fl2 i).2.trans (hs i hi)
  obtain ⟨a1, a2, a3, a4⟩ := rch_rel hG hn Q B1 B2 q r R hm2 hW hV hd hC hK hq hok ⟨c, hc, hrel⟩ hpt hs2
  obtain ⟨b1, b2⟩ := rch_bad hG hn Q B1 B2 q r R hm2 hW hV hd hC hK hq hok ⟨c, hc, hrel⟩ hpt hs2
  refine ⟨⟨q, hq, hok⟩, a1, a2, chP_A Q B1 q r hP hok (by rw [hc]; rfl), a3, fun h => ?_, fun h => ?_⟩
  · obtain ⟨c9, j1, j2, -⟩ := a4 h
    rw [hE] at j1
    exact ⟨⟨c9, j1, j2⟩, fun i => (b1 h i).trans (fl2 i).1⟩
  · refine ⟨(b2 h).1, fun i => ?_⟩
    rw [(b2 h).2 i, (fl2 i).1, stL_c eq2]
