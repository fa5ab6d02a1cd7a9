/-! JUDGE on both sides: blocks and coins behind a kept block -/
theorem btB_32 {T : List Nat} (kT : kO (mg T)) : btB T < 2 ^ 32 := ks_num_lt kT 4 72
theorem sM_false {b : Bool} (h : ¬ b = true) : b = false := by cases b <;> simp_all
/-- of a good block -/
theorem good_due {n best p : Nat} {Bc Br : Nat → Bk} {C T : List Nat} (hK : kkK n best Bc Br C) (hin : inF Bc n T = nI 0) (hq : inQ Bc n T = p + 1) (hp : p < n) (kT : kO (mg T)) : bkD (Bc p) = false ∧ btB T = dueB Bc p := by
  obtain ⟨⟨hn60, hbe⟩, hm, -, tB, -⟩ := hK
  obtain ⟨-, -, -, g4, -⟩ := in_good hin
  rw [hq, Nat.add_sub_cancel] at g4
  exact rh_due g4 (btB_32 kT) (by have := (due_b tB hn60 hp).1; omega)
theorem good_w {n best p : Nat} {Bc Br : Nat → Bk} {C T : List Nat} (hK : kkK n best Bc Br C) (hin : inF Bc n T = nI 0) (hq : inQ Bc n T = p + 1) (hp : p < n) (kT : kO (mg T)) : 2 ^ 256 / (tg_num (btB T) + 1) ≤ 2 ^ 23 ∧ bkW (Bc p) ≤ 2 ^ 29 ∧ bkW (Bc best) ≤ 2 ^ 29 := by
  obtain ⟨⟨hn60, hbe⟩, hm, -, tB, -⟩ := id hK
  obtain ⟨-, e⟩ := good_due hK hin hq hp kT
  have d := (due_b tB hn60 hp).2
  have h1 := (tB p hp).1
  refine ⟨?_, tB.w hn60 hp, tB.w hn60 hbe⟩
  rw [e]
  exact wk_b d (by omega)
theorem kk_st {n best p b : Nat} {Bc Br : Nat → Bk} {C T : List Nat} {S : ks_S} (hK : kkK n best Bc Br C) (eR : lwR n Bc Br) (hn : n < 60) (hin : inF Bc n T = nI 0) (hq : inQ Bc n T = p + 1) (hp : p < n) (hTl : T.length ≤ 1600) (kT : kO (mg T)) (hA : slA n Bc b) (rb : rbS S n Br) (nw : nwS S) : lwR (n + 1) (va_up Bc n (kpK Bc n T b)) (va_up Br n (rkB Br T p S.1)) ∧ kkK (n + 1) best (va_up Bc n (kpK Bc n T b)) (va_up Br n (rkB Br T p S.1)) C := by
  obtain ⟨w1, w2, w3⟩ := good_w hK hin hq hp kT
  obtain ⟨gd, ge⟩ := good_due hK hin hq hp kT
  obtain ⟨⟨hn60, hbe⟩, hm, ⟨cW, cS, cC, cV, bV, cB, cP⟩, tB, hDi, ⟨rH, rD⟩, hsm, hkc, h00, r0, L0, eC0, hrel⟩ := hK
  obtain ⟨g1, g2, g3, g4, g5⟩ := in_good hin
  rw [hq, Nat.add_sub_cancel] at g4 g5
  have gI := inF_0 hin
  have kM : bkM (kpK Bc n T b) = T := rfl
  have kP : bkP (kpK Bc n T b) = p + 1 := hq
  have kH : bkH (kpK Bc n T b) = bkH (Bc p) + 1 := by
    show bkH (Bc (inQ Bc n T - 1)) + 1 = _
    rw [hq, Nat.add_sub_cancel]
  have kW : bkW (kpK Bc n T b) = bkW (Bc p) + 2 ^ 256 / (tg_num (btB T) + 1) := by
    show bkW (Bc (inQ Bc n T - 1)) + 2 ^ 256 / (tg_num (btB T) + 1) = _
    rw [hq, Nat.add_sub_cancel]
  have rW : bkW (rkB Br T p S.1) = bkW (Bc p) + 2 ^ 256 / (tg_num (btB T) + 1) := by
    show (2 ^ 256 / (tg_num (btB T) + 1) + bkW (Br p)) % 2 ^ 256 = _
    rw [(eR p).2.2.2.1]
    generalize 2 ^ 256 / (tg_num (btB T) + 1) = x at *
    rw [Nat.mod_eq_of_lt (Nat.lt_of_le_of_lt (Nat.add_le_add w1 w2) (by decide)), Nat.add_comm]
  have hk700 : bkH (kpK Bc n T b) < 700 := by
    rw [kH]
    have := (tB p hp).1
    omega
  obtain ⟨v1, v2, v3⟩ := kp_all (b := 0) (p := 0) (D := kpK Bc n T b) bV cV hDi ⟨hTl, g1, kT⟩ kM hk700 gI (inD_of kT g5)
  have eR1 : lwR (n + 1) (va_up Bc n (kpK Bc n T b)) (va_up Br n (rkB Br T p S.1)) := fun i => by
    by_cases c : i = n
    · rw [c, va_up_self, va_up_self]
      refine ⟨rfl, kP.symm, ?_, rW.trans kW.symm, rfl⟩
      rw [kH]
      show bkH (Br p) + 1 = _
      rw [(eR p).2.2.1]
    · rw [va_up_ne _ _ c, va_up_ne _ _ c]
      exact eR i
  refine ⟨eR1, ⟨by omega, by omega⟩, fun i => ⟨(eR1 i).1, (eR1 i).2.2.1⟩, ⟨cW.keep (by omega) (by rw [kP]; omega), cS.keep hA rfl, cC.keep rfl, v2, v1, fun i h0 hi hb => ?_, fun i h0 hi hc => ?_⟩, tB.keep hn hp (by rw [kM]; exact ge) kH (by rw [kM]; exact kW), v3, ⟨fun i hi => ?_, rbD_k rD rb nw rfl⟩, fun i hi => ?_, hkc.keep cW bV (by omega) rfl, ?_, r0, L0, ?_, ?_⟩
  · by_cases c : i = n
    · exfalso
      rw [c, va_up_self, kP, Nat.add_sub_cancel, va_up_ne _ _ (by omega), gd] at hb
      cases hb
    · have hpi := (cW.2 i h0 (by omega))
      rw [va_up_ne _ _ c] at hb ⊢
      rw [va_up_ne _ _ (by omega)] at hb
      exact cB i h0 (by omega) hb
  · by_cases c : i = n
    · exfalso
      rw [c, va_up_self] at hc
      cases hc
    · have hpi := (cW.2 i h0 (by omega))
      rw [va_up_ne _ _ c] at hc ⊢
      rw [va_up_ne _ _ (by omega)]
      exact cP i h0 (by omega) hc
  · by_cases c : i = n
    · rw [c, va_up_self]
      show bkH (Br p) + 1 = if p + 1 = 0 then 0 else bkH (va_up Br n (rkB Br T p S.1) (p + 1 - 1)) + 1
      rw [if_neg (by omega), Nat.add_sub_cancel, va_up_ne _ _ (by omega)]
    · rw [va_up_ne _ _ c, rH i (by omega)]
      by_cases e0 : bkP (Br i) = 0
      · rw [if_pos e0, if_pos e0]
      · rw [if_neg e0, if_neg e0]
        have := (cW.eq eR).par (b := i) (by omega)
        rw [va_up_ne _ _ (by omega)]
  · by_cases c : i = n
    · rw [c, va_up_self, va_up_self]
      rfl
    · rw [va_up_ne _ _ c, va_up_ne _ _ c]
      exact hsm i (by omega)
  · rw [va_up_ne _ _ (by omega)]
    exact h00
  · rw [va_up_ne _ _ (by omega)]
    exact eC0
  · have ag : agB n Bc (va_up Bc n (kpK Bc n T b)) := fun j hj => by rw [va_up_ne _ _ (by omega)]; exact ⟨rfl, rfl⟩
    have hX : ∀ x ∈ C, rmK n Bc x := fun x hx => by
      obtain ⟨c9, hc9, rfl⟩ := List.mem_map.mp ((hrel.2.2 x).mp hx)
      obtain ⟨b9, t9, o9, ⟨q1, q2, q3, q4, q5⟩, -, -, -, f1, f2, f3⟩ := cnG_f bV hn60 (cC best (r0, L0) hbe eC0 c9 hc9)
      exact ⟨by rw [f1]; exact q1, by rw [f1, f2]; exact q2, by rw [f1, f2, f3]; exact q3⟩
    exact cRel_l ag (by omega) hX hrel
/-- the block is connected -/
theorem kk_ok {n best : Nat} {B1 Br1 Bf : Nat → Bk} {C : List Nat} {r : Nat} {Q : List Nat} (hG : ∀ M t i, gdM M t i = gdR gpG M t i) (hK : kkK (n + 1) best B1 Br1 C) (eR : lwR (n + 1) B1 Br1) (eQ : Q = (clL B1 60 (n + 1)).reverse) (eB : Bf = (cnA B1 r Q).1) (h0 : (cnA B1 r Q).2.1 = 0) (fW : chW (n + 1) Bf) (fS : chS (n + 1) Bf) (fC : chC (n + 1) Bf) (fV : chV (n + 1) Bf) : (rchT n Br1).1 = 0 ∧ lwR (n + 1) Bf (rchT n Br1).2.2 ∧ kkK (n + 1) n Bf (rchT n Br1).2.2 (rchT n Br1).2.1 := by
  obtain ⟨⟨hn60, hbe⟩, hm, ⟨cW, cS, cC, cV, bV, cB, cP⟩, tB, hDi, ⟨rH, rD⟩, hsm, hkc, h00, r0, L0, eC0, hrel⟩ := hK
  obtain ⟨⟨q, hq, hok⟩, j1, j2, j3, j4, j5, -⟩ := jg_rel hG hn60 hm (fun i => (eR i).2.1) cW bV hDi cC hkc cP h00 hsm r eQ
  obtain ⟨⟨c9, k1, k2⟩, k3⟩ := j5 h0
  rw [← eB] at j2 j3 j4 k1
  have eF : ∀ i, bkM (Bf i) = bkM (B1 i) ∧ bkN (Bf i) = bkN (B1 i) ∧ bkP (Bf i) = bkP (B1 i) ∧ bkH (Bf i) = bkH (B1 i) ∧ bkW (Bf i) = bkW (B1 i) ∧ bkD (Bf i) = bkD (B1 i) := fun i => by rw [eB]; exact cnA_M Q B1 r i
  have eT := rchF_eq (Gp := gpG) (n := n + 1) (upL Br1 (n + 1) (n + 1)).reverse Br1 []
  change eqB Br1 (rchT n Br1).2.2 at eT
  have eR2 : lwR (n + 1) Bf (rchT n Br1).2.2 := fun i => ⟨by rw [(eT i).2.1, (eF i).1]; exact (eR i).1, by rw [(eT i).2.2.1, (eF i).2.2.1]; exact (eR i).2.1, by rw [(eT i).2.2.2.1, (eF i).2.2.2.1]; exact (eR i).2.2.1, by rw [(eT i).2.2.2.2, (eF i).2.2.2.2.1]; exact (eR i).2.2.2.1, by rw [k3 i, (eF i).2.2.2.2.2]; exact (eR i).2.2.2.2⟩
  refine ⟨j1.trans h0, eR2, ⟨hn60, by omega⟩, fun i => ⟨(eR2 i).1, (eR2 i).2.2.1⟩, ⟨fW, fS, fC, fV, blV_e bV (fun i => ⟨(eF i).1, (eF i).2.2.2.1⟩), fun i a1 a2 a3 => ?_, j3⟩, tB.e (fun i _ => ⟨(eF i).1, (eF i).2.2.2.1, (eF i).2.2.2.2.1⟩), fun b hb => by rw [(eF b).1]; exact hDi b hb, ⟨fun i hi => ?_, eT.D rD⟩, j4, j2, ?_, c9.1, c9.2, k1, cRel_e (fun i => ⟨(eF i).1, (eF i).2.2.2.1⟩) k2⟩
  · rw [(eF i).2.2.1, (eF _).2.2.2.2.2] at a3
    rw [(eF i).2.2.2.2.2]
    exact cB i a1 a2 a3
  · rw [(eT i).2.2.2.1, (eT i).2.2.1, (eT _).2.2.2.1]
    exact rH i hi
  · cases e : bkC (B1 0) with
    | none => exact absurd e h00
    | some c8 =>
      rw [eB, cnA_C Q B1 q r 0 c8 hok e]
      intro x
      cases x
/-- the block turns out bad -/
theorem kk_bad {n best : Nat} {B1 Br1 Bf : Nat → Bk} {C : List Nat} {r : Nat} {Q : List Nat} (hG : ∀ M t i, gdM M t i = gdR gpG M t i) (hK : kkK (n + 1) best B1 Br1 C) (eR : lwR (n + 1) B1 Br1) (eQ : Q = (clL B1 60 (n + 1)).reverse) (eB : Bf = spB (n + 1) (cnA B1 r Q).1 (cnA B1 r Q).2.2) (h0 : (cnA B1 r Q).2.1 ≠ 0) (fS : chS (n + 1) Bf) (fC : chC (n + 1) Bf) (fV : chV (n + 1) Bf) : (rchT n Br1).1 = (cnA B1 r Q).2.1 ∧ lwR (n + 1) Bf (rchT n Br1).2.2 ∧ kkK (n + 1) best Bf (rchT n Br1).2.2 C := by
  obtain ⟨⟨hn60, hbe⟩, hm, ⟨cW, cS, cC, cV, bV, cB, cP⟩, tB, hDi, ⟨rH, rD⟩, hsm, hkc, h00, r0, L0, eC0, hrel⟩ := hK
  obtain ⟨⟨q, hq, hok⟩, j1, j2, j3, j4, -, j5⟩ := jg_rel hG hn60 hm (fun i => (eR i).2.1) cW bV hDi cC hkc cP h00 hsm r eQ
  obtain ⟨hx, k3⟩ := j5 h0
  have hst : ∀ i c, bkC (B1 i) = some c → bkC ((cnA B1 r Q).1 i) = some c := fun i c h => cnA_C Q B1 q r i c hok h
  have eA := cnA_M Q B1 r
  obtain ⟨x, ex⟩ : ∃ x, x = (cnA B1 r Q).2.2 := ⟨_, rfl⟩
  rw [← ex] at hx k3 eB
  obtain ⟨A, eAA⟩ : ∃ A, A = (cnA B1 r Q).1 := ⟨_, rfl⟩
  rw [← eAA] at j2 j3 j4 eB eA hst
  have aW : chW (n + 1) A := ⟨by rw [(eA 0).2.2.1]; exact cW.1, fun i h1 h2 => by rw [(eA i).2.2.1]; exact cW.2 i h1 h2⟩
  have aB : chB (n + 1) A := fun i a1 a2 a3 => by
    rw [(eA i).2.2.1, (eA _).2.2.2.2.2] at a3
    rw [(eA i).2.2.2.2.2]
    exact cB i a1 a2 a3
  have sA := sp_all aW aB hx
  have eF : ∀ i, bkM (Bf i) = bkM (B1 i) ∧ bkN (Bf i) = bkN (B1 i) ∧ bkP (Bf i) = bkP (B1 i) ∧ bkH (Bf i) = bkH (B1 i) ∧ bkW (Bf i) = bkW (B1 i) ∧ bkD (Bf i) = (if i < n + 1 then dsB A (n + 1) x i else bkD (A i)) ∧ bkC (Bf i) = bkC (A i) := fun i => by
    rw [eB]
    obtain ⟨a1, a2, a3, a4, a5, a6⟩ := eA i
    refine ⟨a1, a2, a3, a4, a5, ?_, rfl⟩
    exact sA i
  have eT := rchF_eq (Gp := gpG) (n := n + 1) (upL Br1 (n + 1) (n + 1)).reverse Br1 []
  change eqB Br1 (rchT n Br1).2.2 at eT
  have stE : ∀ c b, stL Br1 x c b = stL A x c b := fun c b => by
    have e : ∀ (B B' : Nat → Bk), (∀ i, bkP (B' i) = bkP (B i)) → ∀ c b, stL B' x c b = stL B x c b := fun B B' h c => by
      induction c with
      | zero => intro b; rfl
      | succ c ih =>
        intro b
        show (if x < b then stL B' x c (bkP (B' b) - 1) else b) = (if x < b then stL B x c (bkP (B b) - 1) else b)
        rw [h b, ih]
    exact e A Br1 (fun i => by rw [(eA i).2.2.1]; exact (eR i).2.1) c b
  have eD : ∀ i, bkD ((rchT n Br1).2.2 i) = bkD (Bf i) := fun i => by
    rw [k3 i, (eF i).2.2.2.2.2.1, (eR i).2.2.2.2, ← (eA i).2.2.2.2.2, stE]
    unfold dsB
    by_cases c : i < n + 1
    · rw [if_pos c]
      by_cases c2 : x ≤ i
      · rw [if_pos ⟨c2, c⟩]
      · rw [if_neg (fun w => c2 w.1), stL_lo (by omega), decide_eq_false (by omega), Bool.or_false]
    · rw [if_neg c, if_neg (fun w => c w.2)]
  have eR2 : lwR (n + 1) Bf (rchT n Br1).2.2 := fun i => ⟨by rw [(eT i).2.1, (eF i).1]; exact (eR i).1, by rw [(eT i).2.2.1, (eF i).2.2.1]; exact (eR i).2.1, by rw [(eT i).2.2.2.1, (eF i).2.2.2.1]; exact (eR i).2.2.1, by rw [(eT i).2.2.2.2, (eF i).2.2.2.2.1]; exact (eR i).2.2.2.1, eD i⟩
  have fW : chW (n + 1) Bf := ⟨by rw [(eF 0).2.2.1]; exact cW.1, fun i h1 h2 => by rw [(eF i).2.2.1]; exact cW.2 i h1 h2⟩
  refine ⟨j1, eR2, ⟨hn60, hbe⟩, fun i => ⟨(eR2 i).1, (eR2 i).2.2.1⟩, ⟨fW, fS, fC, fV, blV_e bV (fun i => ⟨(eF i).1, (eF i).2.2.2.1⟩), fun i a1 a2 a3 => ?_, fun i a1 a2 a3 => ?_⟩, tB.e (fun i _ => ⟨(eF i).1, (eF i).2.2.2.1, (eF i).2.2.2.2.1⟩), fun b hb => by rw [(eF b).1]; exact hDi b hb, ⟨fun i hi => ?_, eT.D rD⟩, fun i hi => by rw [j4 i hi, (eF i).2.2.2.2.2.2], kcI_e j2 (fun i => ⟨(eF i).1.trans (eA i).1.symm, (eF i).2.2.2.1.trans (eA i).2.2.2.1.symm⟩) (fun i => (eF i).2.2.1.trans (eA i).2.2.1.symm) (fun i => (eF i).2.2.2.2.2.2), ?_, r0, L0, ?_, cRel_e (fun i => ⟨(eF i).1, (eF i).2.2.2.1⟩) hrel⟩
  · have hpi := aW.2 i a1 a2
    rw [(eF i).2.2.1, ← (eA i).2.2.1, (eF _).2.2.2.2.2.1, if_pos (by omega)] at a3
    rw [(eF i).2.2.2.2.2.1, if_pos a2]
    unfold dsB at a3 ⊢
    rw [Bool.or_eq_true, decide_eq_true_eq] at a3 ⊢
    rcases a3 with w | w
    · exact Or.inl (aB i a1 a2 w)
    · by_cases c : x < i
      · rw [stL_up aW a2 c]
        exact Or.inr w
      · exfalso
        rw [stL_lo (by omega)] at w
        omega
  · rw [(eF i).2.2.2.2.2.2] at a3
    rw [(eF i).2.2.1, ← (eA i).2.2.1, (eF _).2.2.2.2.2.2]
    exact j3 i a1 a2 a3
  · rw [(eT i).2.2.2.1, (eT i).2.2.1, (eT _).2.2.2.1]
    exact rH i hi
  · rw [(eF 0).2.2.2.2.2.2]
    cases e : bkC (B1 0) with
    | none => exact absurd e h00
    | some c8 =>
      rw [hst 0 c8 e]
      intro y
      cases y
  · rw [(eF best).2.2.2.2.2.2]
    exact hst best (r0, L0) eC0
