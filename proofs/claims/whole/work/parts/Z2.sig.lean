/-! SIGNATURES: class and reference say the same -/
theorem sq_ng {w : Nat} (hw : w ≤ pP) : mM (pP - w) (pP - w) = mM w w := by
  obtain ⟨F, iF, c, vl, h⟩ := fp_ex
  refine h.il (mM_lt _ _) (mM_lt _ _) ?_
  rw [h.mm, h.mm, h.ng hw]
  grind
theorem sM_0 {w : Nat} (h0 : w ≠ 0) (hw : w < pP) : sM 0 w = pP - w := by
  unfold sM
  rw [Nat.zero_add, Nat.mod_eq_of_lt (by omega)]
theorem ky_eq (g : Nat → Nat) (n : Nat) : kyF g 0 n = rykF g n ∧ (rykF g n = true → kyY g 0 n = rykY g n ∧ mM (rykY g n) (rykY g n) = ky3 (beN g 1) ∧ beN g 1 < pP ∧ rykY g n < pP) := by
  have e0 : beN g (0 + 1) = beN g 1 := rfl
  have e1 : beN g (0 + 33) = beN g 33 := by rw [Nat.zero_add]
  have rl : rtL (ky3 (beN g 1)) 256 1 < pP := rtL_lt (by decide)
  have r0 := rt_n0 (beN g 1)
  by_cases hS : rykS g n
  · have w : kyW g 0 n = false := by
      unfold kyW
      exact decide_eq_false (fun x => by have := hS.1; omega)
    have eY : kyY g 0 n = rykY g n := by
      unfold kyY rykY kyE
      rw [if_neg (by rw [w]; decide), if_pos hS, rtM_e, e0, sM_0 r0 rl, show g 0 % 2 = g 0 - 2 by rcases hS.2 with x | x <;> omega]
    have sq : mM (rykY g n) (rykY g n) = mM (rtL (ky3 (beN g 1)) 256 1) (rtL (ky3 (beN g 1)) 256 1) ∧ rykY g n < pP := by
      unfold rykY
      rw [if_pos hS, rtM_e, sM_0 r0 rl]
      split
      · exact ⟨rfl, rl⟩
      · exact ⟨sq_ng (Nat.le_of_lt rl), by omega⟩
    have f1 : kyF g 0 n = decide (beN g 1 < pP ∧ mM (rtL (ky3 (beN g 1)) 256 1) (rtL (ky3 (beN g 1)) 256 1) = ky3 (beN g 1)) := by
      unfold kyF
      rw [eY, sq.1, w, e0, decide_eq_decide]
      exact ⟨fun x => ⟨x.2.1, x.2.2.2⟩, fun x => ⟨Or.inr hS, x.1, fun y => (by cases y), x.2⟩⟩
    have f2 : rykF g n = decide (beN g 1 < pP ∧ mM (rtL (ky3 (beN g 1)) 256 1) (rtL (ky3 (beN g 1)) 256 1) = ky3 (beN g 1)) := by
      unfold rykF
      rw [if_pos hS, rtM_e, ← Bool.decide_and]
    refine ⟨f1.trans f2.symm, fun t => ?_⟩
    rw [f2, decide_eq_true_eq] at t
    exact ⟨eY, sq.1.trans t.2, t.1, sq.2⟩
  · have f2 : rykF g n = decide (beN g 1 < pP ∧ n = 65 ∧ g 0 = 4 ∧ beN g 33 < pP ∧ ky3 (beN g 1) = mM (beN g 33) (beN g 33)) := by
      unfold rykF
      rw [if_neg hS, ← Bool.decide_and]
    have eY2 : rykY g n = beN g 33 := by
      unfold rykY
      rw [if_neg hS]
    by_cases w : n = 65 ∧ g 0 = 4
    · have w1 : kyW g 0 n = true := by
        unfold kyW
        exact decide_eq_true w
      have eY : kyY g 0 n = beN g 33 := by
        unfold kyY
        rw [if_pos w1, e1]
      have f1 : kyF g 0 n = decide (beN g 1 < pP ∧ n = 65 ∧ g 0 = 4 ∧ beN g 33 < pP ∧ ky3 (beN g 1) = mM (beN g 33) (beN g 33)) := by
        unfold kyF
        rw [eY, w1, e0, e1, decide_eq_decide]
        exact ⟨fun x => ⟨x.2.1, w.1, w.2, x.2.2.1 rfl, x.2.2.2.symm⟩, fun x => ⟨Or.inl rfl, x.1, fun _ => x.2.2.2.1, x.2.2.2.2.symm⟩⟩
      refine ⟨f1.trans f2.symm, fun t => ?_⟩
      rw [f2, decide_eq_true_eq] at t
      rw [eY2]
      exact ⟨eY, t.2.2.2.2.symm, t.1, t.2.2.2.1⟩
    · have w1 : kyW g 0 n = false := by
        unfold kyW
        exact decide_eq_false w
      have f1 : kyF g 0 n = false := by
        unfold kyF
        refine decide_eq_false (fun x => ?_)
        rcases x.1 with y | y
        · rw [w1] at y
          cases y
        · exact hS y
      have f3 : rykF g n = false := by
        rw [f2]
        exact decide_eq_false (fun x => w ⟨x.2.1, x.2.2.1⟩)
      refine ⟨f1.trans f3.symm, fun t => ?_⟩
      rw [f3] at t
      cases t
theorem dvF_m (z s : Nat) : dvF nN (z % nN) s = z * s ^ (nN - 2) % nN := by
  unfold dvF
  rw [Nat.mod_mul_mod]
theorem dvF_lt (z s : Nat) : dvF nN z s < nN := Nat.mod_lt _ (by have := nN_2; omega)
theorem smL_L {B K : Nat → Pt} (hB : ∀ i, i < 15 → ptL (B i)) (hK : ∀ i, i < 15 → ptL (K i)) (u v : Nat) : ∀ (m : Nat) (st : Pt × Bool), ptL st.1 → ptL (smL B K u v m st).1
  | 0, _, h => h
  | m + 1, st, h => smL_L hB hK u v m (smStep B K (dg4 u m) (dg4 v m) st) (smA_L hK (dg4_lt v m) (smA_L hB (dg4_lt u m) (smD_L h)))
theorem kyT_L {x y : Nat} (hx : x < pP) (hy : y < pP) : ∀ i, i < 15 → ptL (kyT x y i) := mlT_L (fun i _ => by
  have h : ∀ j, kyR x y j < pP := fun j => by
    unfold kyR
    split
    · exact hx
    · split
      · exact hy
      · split
        · decide
        · decide
  exact ⟨h _, h _, h _⟩)
theorem ec_last {X Y u v q : Nat} (sq : mM Y Y = ky3 X) (lX : X < pP) (lY : Y < pP) (hu : u < nN) (hv : v < nN) (hq : q < nN) : shR (smP X Y u v) q = ecR (ecQ gpG (X, Y, 1) u v) q := by
  obtain ⟨F, iF, c, vl, h⟩ := fp_ex
  have bu := Nat.lt_trans hu nN_b.1
  have bv := Nat.lt_trans hv nN_b.1
  have s := sm_jp h (tb_B h) (tb_K h sq) bu bv
  have r1 := rkG_jp h bu
  have oK : onE (jpE c vl (X, Y, 1)) := by rw [jp_aff h]; exact on_aff h sq
  have r2 := rm_mu h (P := (X, Y, 1)) (by show 1 < pP; decide) oK bv
  rw [jp_aff h] at r2
  have o1 : onE (jpE c vl (rkG gpG u)) := by rw [r1.1]; exact muE_on h.g (tb_B h).1 _
  have o2 : onE (jpE c vl (rmL (X, Y, 1) v 256 (0, 0, 0))) := by rw [r2.1]; exact muE_on h.g (on_aff h sq) _
  have eA := jp_rA h r1.2 r2.2 o1 o2
  refine sh_ec h s.2 (rfA_z r1.2 r2.2) (smL_L baT_L (kyT_L lX lY) u v 64 ((0, 0, 0), false) ⟨by decide, by decide, by decide⟩).1 ?_ hq
  show jpE c vl (smL baT (kyT X Y) u v 64 ((0, 0, 0), false)).1 = jpE c vl (rfA (rkG gpG u) (rmL (X, Y, 1) v 256 (0, 0, 0)))
  rw [s.1, eA, r1.1, r2.1]
theorem ec_eq (k s h : List Nat) : ecG k s h = ecF gpG k s h := by
  unfold ecG ecF rfR
  obtain ⟨e1, e2⟩ := ky_eq (Fl k) k.length
  rw [e1]
  cases hK : rykF (Fl k) k.length with
  | false => rw [Bool.false_and, Bool.false_and, Bool.false_and]
  | true =>
    obtain ⟨eY, sq, lX, lY⟩ := e2 hK
    cases hr : inN (sgr (Fl s) 0) with
    | false => rw [Bool.false_and, Bool.true_and, Bool.false_and, Bool.true_and, Bool.false_and]
    | true =>
      cases hs : inN (sgs (Fl s) 0 s.length) with
      | false => rw [Bool.true_and, Bool.true_and, Bool.false_and, Bool.true_and, Bool.true_and, Bool.false_and]
      | true =>
        have hq : sgr (Fl s) 0 < nN := (of_decide_eq_true hr).2
        rw [← dvF_m, ← dvF_m, Nat.mod_eq_of_lt hq, eY]
        simp only [Bool.true_and]
        exact ec_last sq lX lY (dvF_lt _ _) (dvF_lt _ _) hq
theorem gd_eq (M : List Nat) (t i : Nat) : gdM M t i = gdR gpG M t i := by
  funext cd k s
  exact ec_eq k s _
