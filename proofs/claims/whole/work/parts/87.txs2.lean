/-! CHAIN: the transactions of a block -/
theorem bk_tx5 {M : List Nat} (h : blk_ (mg M) M.length = true) {t : Nat} (ht : t < mg M 80) : tx_ (mg M) (bsP M t) M.length = some ((txP M t).1, (txP M t).2.1, (txP M t).2.2.1, (txP M t).2.2.2.1, (txP M t).2.2.2.2) := (bk_tx h ht).2.2.1
theorem tvR.up2 {S S1 : ks_S} {L : List Nat} (h : tvR S) (hu : ks_up S S1 L) (hn : ∀ x ∈ L, x < 20 ∨ 26 < x) : tvR S1 := by
  obtain ⟨vy, i1, i2, i9, x, fA, fS, fZ, hA, hS, hZ, c0, c1, c2, c3, c4, c5, c6⟩ := h
  have n : ∀ y, 20 ≤ y → y ≤ 26 → y ∉ L := fun y a b hy => by have := hn y hy; omega
  exact ⟨vy, i1, i2, i9, x, fA, fS, fZ, hA, hS, hZ, hu.at c0 (n _ (by decide) (by decide)), hu.at c1 (n _ (by decide) (by decide)), hu.at c2 (n _ (by decide) (by decide)), hu.at c3 (n _ (by decide) (by decide)), hu.at c4 (n _ (by decide) (by decide)), hu.at c5 (n _ (by decide) (by decide)), hu.at c6 (n _ (by decide) (by decide))⟩
theorem asT_le {g : Nat → Nat} {b L k p m u e : Nat} (ht : tx_ g b L = some (k, p, m, u, e)) (hL16 : L ≤ 1600) : asT g L k p m u ≤ 7040000 := by
  have bd := tx_bd ht
  have sI := sumB (f := fun i => ask_ (scI g L p i)) (b := 32000) (n := k) (fun i hi => by
    have h1 := ask_le (scI g L p i)
    have h2 := tx_in ht i hi
    show ask_ (scI g L p i) ≤ 32000
    unfold scI at h1 ⊢
    rw [bytL_len] at h1
    omega)
  have sO := sumB (f := fun i => ask_ (scO g L u i)) (b := 32000) (n := m) (fun i hi => by
    have h1 := ask_le (scO g L u i)
    have h2 := tx_out ht i hi
    show ask_ (scO g L u i) ≤ 32000
    unfold scO at h1 ⊢
    rw [bytL_len] at h1
    omega)
  unfold asT
  omega
theorem asM_le {M : List Nat} (h : blk_ (mg M) M.length = true) (h16 : M.length ≤ 1600) {t : Nat} (ht : t < mg M 80) : asM M t ≤ 7040000 := asT_le (bk_tx5 h ht) h16
abbrev LVw : List Nat := [20, 21, 22, 23, 24, 25, 26]
/-- a transaction of a block is read -/
theorem c_readM {l : Launch} {G : ks_G} {d : Nat} {S : ks_S} {M : List Nat} {y t a : Nat} {g1 : Nat → Nat} (hy : S.2.2 y = some (kB 1600 g1)) (hg : kO g1) (h16 : M.length ≤ 1600) (eg : ∀ j, j < M.length → g1 j = mg M j) (hb : blk_ (mg M) M.length = true) (ht : t < mg M 80) (ha : a = bsP M t) (hy9 : 56 ≤ y) (hR : tvR S) : ks_P l G yX10_read mX10_read (d + 2) [.ref 20, .ref y, .int (nI a), .int (nI M.length)] S (fun z S' => (∃ v, z = some (.int v)) ∧ ks_up S S' LVw ∧ tx_ g1 a M.length = some (txP M t) ∧ tv_ok S' y g1 M.length a (txP M t).1 (txP M t).2.1 (txP M t).2.2.1 (txP M t).2.2.2.1 (txP M t).2.2.2.2) := by
  have q := bk_tx hb ht
  have e : tx_ g1 a M.length = some (txP M t) := by rw [tx_congr eg, ha]; exact q.2.2.1
  refine (c_read hy hg h16 (by decide) (by rw [ha]; omega) (by simp only [List.mem_cons, List.not_mem_nil, or_false]; omega) hR).mono (fun z S' h => ?_)
  obtain ⟨h1, h2⟩ := h
  rcases h2 with ⟨h3, -⟩ | ⟨k, p, m, u, x, h3, h4, h5⟩
  · rw [e] at h3; cases h3
  · rw [e] at h3
    have h6 := Option.some.inj h3
    rw [h6]
    exact ⟨⟨_, h4⟩, h1, by rw [e, h6], h5⟩
set_option maxRecDepth 100000 in
set_option maxHeartbeats 800000 in
theorem c_ch_refuseTransactions {l : Launch} {G : ks_G} {d : Nat} {S : ks_S} {n best : Nat} {cc : Int32} {tk : Int64} (hO : S.2.2 41 = some (.inr (5, [.ref 42, .ref 43, .ref 44, .int (nI n), .int (nI best), .ref 7, .ref 27, .ref 20, .ref 48, .ref 49, .ref 50, .ref 51, .int cc, .long tk]))) {b : Nat} {M : List Nat} {hh : Nat} {par : Int32} {wk : Int64} {bad : Bool} {cr : Value} {g1 f2 g3 g4 : Nat → Nat} (hF : bkX S b (nI M.length) (nI (mg M 80)) par (nI hh) wk bad cr g1 f2 g3 g4) (h16 : M.length ≤ 1600) (eg : ∀ j, j < M.length → g1 j = mg M j) (hbl : blk_ (mg M) M.length = true) (hst : ∀ q, q ≤ mg M 80 → bs_ (mg M) M.length q = some (f2 q)) {gr : Nat → Nat} (hH : hsO S) (hK : ks_stOK S) (hR : tvR S) (h49 : S.2.2 49 = some (kB 32 gr)) (hgr : kO gr) (hh31 : hh < 2 ^ 31) : ks_P l G yX2_refuseTransactions mX2_refuseTransactions (d + 7) [.ref 41, .ref b] S (fun z S' => z = some (.int (nI (rtF M hh))) ∧ ks_up S S' [9, 8, 10, 11, 12, 13, 49, 20, 21, 22, 23, 24, 25, 26, b + 3] ∧ hsO S' ∧ tvR S' ∧ (∃ gr, kO gr ∧ S'.2.2 49 = some (kB 32 gr)) ∧ ∃ g3', bkX S' b (nI M.length) (nI (mg M 80)) par (nI hh) wk bad cr g1 f2 g3' g4 ∧ ∀ t, t < mg M 80 → ∀ j, j < 32 → g3' (32 * t + j) = idB M t j) := by
  have b9 := blk_b hbl
  have b56 := hF.2.2.2.2.2.2.2.2.2
  have ef2 : ∀ t, t ≤ mg M 80 → f2 t = bsP M t := fun t ht => by
    have h1 := hst t ht
    unfold bsP
    rw [h1]
    rfl
  obtain ⟨c, hc⟩ : ∃ c, mg M 80 = c := ⟨_, rfl⟩
  rw [hc] at hF ef2 b9 hst ⊢
  have erT : rtF M hh = if c = 0 then 7 else if sm32 (root_ (idsF M) c) 0 (mg M) 36 = false ∨ sameF M = true then 6 else if r1F M c 0 ≠ 0 then r1F M c 0 else if 60 < sum_ (asM M) c then 9 else if ∃ t, t < c ∧ laM M hh t = false then 10 else 0 := by unfold rtF; rw [hc]
  rw [erT]
  refine ks_of (by decide) rfl rfl (Nat.le_of_ble_eq_true rfl) ?_
  show ks_X l G mX2_refuseTransactions (d + 7) 0 [(0, .ref 41), (1, .ref b)] [] S _
  refine ks_aload_n dX2_refuseTransactions_0 rfl rfl ?_
  refine ks_getf (T := TX0) (kf := 5) kx_949 rfl in_X0 cl_X0 (by decide) hF.1 rfl dX2_refuseTransactions_1 rfl ?_
  refine ks_if_neN (tgt := 10) (by omega) dX2_refuseTransactions_4 (by decide) rfl (fun h1 => ?_) (fun h1 => ?_)
  · rw [if_neg h1]
    refine ks_aload_n dX2_refuseTransactions_10 rfl rfl ?_
    refine ks_aload_n dX2_refuseTransactions_11 rfl rfl ?_
    refine ks_getf (T := TX2) (kf := 5) kx_739 rfl in_X2 cl_X2 (by decide) hO rfl dX2_refuseTransactions_12 rfl ?_
    refine ks_callV (n := 1) (M' := mX0_nameTransactions) (c_nameTx (d := d + 1) (c := c) hF b9.2 (fun t ht => by rw [ef2 t (by omega), ef2 (t + 1) (by omega)]; have := bk_tx hbl (t := t) (by omega); omega) hH hK) hF.1 cl_X0 rfl kx_1001 kx_1002 kx_1003 kx_29 kx_1004 (by decide +kernel) rfl (by decide) (Nat.le_of_ble_eq_true rfl) rfl dX2_refuseTransactions_15 rfl (fun z1 T1 y1 => ?_)
    obtain ⟨rfl, u1, H1, ga, kga, e1, i1⟩ := y1
    have F1 : bkX T1 b (nI M.length) (nI c) par (nI hh) wk bad cr g1 f2 ga g4 := by
      obtain ⟨q1, q2, q3, q4, q5, q6, q7, q8, q9⟩ := hF
      have nb : ∀ x, 56 ≤ x → x ≠ b + 3 → x ∉ ([9, 8, 10, 11, 12, b + 3] : List Nat) := fun x h1 h2 => by simp only [List.mem_cons, List.not_mem_nil, or_false]; omega
      exact ⟨u1.at q1 (nb _ (by omega) (by omega)), u1.at q2 (nb _ (by omega) (by omega)), u1.at q3 (nb _ (by omega) (by omega)), e1, u1.at q5 (nb _ (by omega) (by omega)), q6, kga, q8, q9⟩
    have ids1 : ∀ t, t < c → ∀ j, j < 32 → ga (32 * t + j) = idB M t j := fun t ht j hj => by
      have q := bk_tx hbl (t := t) (by omega)
      rw [i1 t ht j hj, ef2 t (by omega), ef2 (t + 1) (by omega)]
      unfold idB
      exact congrFun (twice_congr (fun k hk => eg _ (by omega))) j
    have O1 := u1.at hO (by simp only [List.mem_cons, List.not_mem_nil, or_false]; omega)
    have K1 := u1.st hK (by intro x hx; have := hF.2.2.2.2.2.2.2.2.1; simp only [List.mem_cons, List.not_mem_nil, or_false] at hx; unfold ks_B at *; omega)
    have e49 := u1.at h49 (by simp only [List.mem_cons, List.not_mem_nil, or_false]; omega)
    have R1 := hR.up2 u1 (by intro x hx; simp only [List.mem_cons, List.not_mem_nil, or_false] at hx; omega)
    refine ks_aload_n dX2_refuseTransactions_18 rfl rfl ?_
    refine ks_aload_n dX2_refuseTransactions_19 rfl rfl ?_
    refine ks_callV (n := 1) (M' := mX2_hasItsRoot) (c_ch_hasItsRoot (d := d) (c := c) O1 F1 b9.2 H1 K1 e49 hgr) O1 cl_X2 rfl kx_1449 kx_1451 kxp_28 kx_26 kx_1452 (by decide +kernel) rfl (by decide) (Nat.le_of_ble_eq_true rfl) rfl dX2_refuseTransactions_20 rfl (fun z2 T2 y2 => ?_)
    obtain ⟨rfl, u2, H2, gr2, kgr2, e2⟩ := y2
    have F2 := F1.up u2 (by intro x hx; simp only [List.mem_cons, List.not_mem_nil, or_false] at hx; omega)
    have O2 := u2.at O1 (by decide)
    have R2 := R1.up u2 (by decide)
    have K2 := u2.st K1 (by unfold ks_B; decide)
    have esm : sm32 (root_ ga c) 0 g1 36 = sm32 (root_ (idsF M) c) 0 (mg M) 36 := sm32_c (fun j hj => by
      rw [Nat.zero_add]
      refine root_c (fun k hk => ?_) j hj
      have := ids1 (k / 32) (by omega) (k % 32) (Nat.mod_lt _ (by decide))
      rw [show 32 * (k / 32) + k % 32 = k by omega] at this
      exact this) (fun j hj => eg _ (by omega))
    rw [esm]
    have s0 : ∀ x, x ∈ [9, 8, 10, 11, 12, b + 3] → x ∈ [9, 8, 10, 11, 12, 13, 49, 20, 21, 22, 23, 24, 25, 26, b + 3] := by intro x hx; simp only [List.mem_cons, List.not_mem_nil, or_false] at hx ⊢; omega
    have s1 : ∀ x, x ∈ [9, 8, 10, 11, 12, 13, 49] → x ∈ [9, 8, 10, 11, 12, 13, 49, 20, 21, 22, 23, 24, 25, 26, b + 3] := by intro x hx; simp only [List.mem_cons, List.not_mem_nil, or_false] at hx ⊢; omega
    have s2 : ∀ x, x ∈ LVw → x ∈ [9, 8, 10, 11, 12, 13, 49, 20, 21, 22, 23, 24, 25, 26, b + 3] := by intro x hx; simp only [List.mem_cons, List.not_mem_nil, or_false] at hx ⊢; omega
    have uu := (u1.mono s0).trans (u2.mono s1)
    have fin : ∀ S1 : ks_S, ks_up T2 S1 LVw → tvR S1 → ks_up S S1 [9, 8, 10, 11, 12, 13, 49, 20, 21, 22, 23, 24, 25, 26, b + 3] ∧ hsO S1 ∧ tvR S1 ∧ (∃ gr, kO gr ∧ S1.2.2 49 = some (kB 32 gr)) ∧ ∃ g3', bkX S1 b (nI M.length) (nI c) par (nI hh) wk bad cr g1 f2 g3' g4 ∧ ∀ t, t < c → ∀ j, j < 32 → g3' (32 * t + j) = idB M t j := fun S1 v r => ⟨uu.trans (v.mono s2), hs_ok.up H2 v (by decide), r, ⟨gr2, kgr2, v.at e2 (by decide)⟩, ga, F2.up v (by intro x hx; simp only [List.mem_cons, List.not_mem_nil, or_false] at hx; omega), ids1⟩
    refine ks_if_eqZ (tgt := 33) dX2_refuseTransactions_23 (by decide) rfl (fun h2 => ?_) (fun h2 => ?_)
    · refine ks_bipush (x := nI 6) dX2_refuseTransactions_33 (by decide) rfl ?_
      refine ks_iret rfl dX2_refuseTransactions_35 ?_
      rw [if_pos (Or.inl h2)]
      exact ⟨rfl, fin T2 (ks_up.rf _ _) R2⟩
    · refine ks_aload_n dX2_refuseTransactions_26 rfl rfl ?_
      refine ks_callS (n := 1) (M' := mX2_hasSameIds) (c_ch_hasSameIds (d := d + 5) (c := c) F2 b9.2) kx_1454 kx_1455 kx_26 kx_1456 (by decide +kernel) rfl (by decide) (Nat.le_of_ble_eq_true rfl) rfl dX2_refuseTransactions_27 rfl (fun z3 T3 y3 => ?_)
      obtain ⟨t3, rfl, hT3, h3⟩ := y3
      obtain rfl := hT3.symm
      have et3 : t3 = sameF M := by
        apply Bool.eq_iff_iff.mpr
        rw [h3, sameF_iff, hc]
        have q9 : ∀ p q, p < c → q < p → sm32 ga (32 * p) ga (32 * q) = sm32 (idB M p) 0 (idB M q) 0 := fun p q h1 h2 => sm32_c (fun j hj => by rw [Nat.zero_add]; exact ids1 p h1 j hj) (fun j hj => by rw [Nat.zero_add]; exact ids1 q (by omega) j hj)
        exact ⟨fun ⟨p, q, a1, a2, a3⟩ => ⟨p, q, a1, a2, by rw [← q9 p q a1 a2]; exact a3⟩, fun ⟨p, q, a1, a2, a3⟩ => ⟨p, q, a1, a2, by rw [q9 p q a1 a2]; exact a3⟩⟩
      rw [et3]
      refine ks_if_eqZ (tgt := 36) dX2_refuseTransactions_30 (by decide) rfl (fun h4 => ?_) (fun h4 => ?_)
      · rw [if_neg (fun h => by rcases h with h | h; (rw [h2] at h; cases h); (rw [h4] at h; cases h))]
        obtain ⟨rr, hrr⟩ : ∃ r, r1F M c 0 = r := ⟨_, rfl⟩
        rw [hrr]
        obtain ⟨sa, hsa⟩ : ∃ r, sum_ (asM M) c = r := ⟨_, rfl⟩
        rw [hsa]
        have lo2 : rr = 0 → ¬ 60 < sa → ∀ u t (S1 : ks_S), t + u = c → (∀ k, k < t → laM M hh k = true) → ks_up T2 S1 LVw → tvR S1 → ks_X l G mX2_refuseTransactions (d + 7) 123 [(0, .ref 41), (1, .ref b), (2, .int (nI sa)), (3, .int (nI t))] [] S1 (fun z S' => z = some (.int (nI (if rr ≠ 0 then rr else if 60 < sa then 9 else if ∃ t, t < c ∧ laM M hh t = false then 10 else 0))) ∧ ks_up S S' [9, 8, 10, 11, 12, 13, 49, 20, 21, 22, 23, 24, 25, 26, b + 3] ∧ hsO S' ∧ tvR S' ∧ (∃ gr, kO gr ∧ S'.2.2 49 = some (kB 32 gr)) ∧ ∃ g3', bkX S' b (nI M.length) (nI (c)) par (nI hh) wk bad cr g1 f2 g3' g4 ∧ ∀ t, t < c → ∀ j, j < 32 → g3' (32 * t + j) = idB M t j) := by
          intro hr0 hs6 u
          induction u with
          | zero =>
            intro t S1 htu hal hv hr3
            have O3 := hv.at O2 (by decide)
            have F3 := F2.up hv (by intro x hx; simp only [List.mem_cons, List.not_mem_nil, or_false] at hx; omega)
            have hob20 : ∃ fs, S1.2.2 20 = some (.inr (13, fs)) := by obtain ⟨vy, i1, i2, i9, x, fA, fS, fZ, hA, hS, hZ, c0, c9⟩ := hr3; exact ⟨_, c0⟩
            obtain ⟨fs20, h20⟩ := hob20
            refine ks_iload_n dX2_refuseTransactions_123 rfl rfl ?_
            refine ks_aload_n dX2_refuseTransactions_124 rfl rfl ?_
            refine ks_getf (T := TX0) (kf := 5) kx_949 rfl in_X0 cl_X0 (by decide) F3.1 rfl dX2_refuseTransactions_125 rfl ?_
            refine ks_icmp_geN (tgt := 180) (by omega) (by omega) dX2_refuseTransactions_128 (by decide) rfl (fun h5 => ?_) (fun h5 => ?_)
            · refine ks_iconst (x := nI 0) dX2_refuseTransactions_180 (by decide) rfl ?_
              refine ks_iret rfl dX2_refuseTransactions_181 ?_
              rw [if_neg (fun h => h hr0), if_neg hs6, if_neg (fun ⟨k, h6, h7⟩ => by rw [hal k (by omega)] at h7; cases h7)]
              exact ⟨rfl, fin S1 hv hr3⟩
            · omega
          | succ u ih =>
            intro t S1 htu hal hv hr3
            have O3 := hv.at O2 (by decide)
            have F3 := F2.up hv (by intro x hx; simp only [List.mem_cons, List.not_mem_nil, or_false] at hx; omega)
            have hob20 : ∃ fs, S1.2.2 20 = some (.inr (13, fs)) := by obtain ⟨vy, i1, i2, i9, x, fA, fS, fZ, hA, hS, hZ, c0, c9⟩ := hr3; exact ⟨_, c0⟩
            obtain ⟨fs20, h20⟩ := hob20
            refine ks_iload_n dX2_refuseTransactions_123 rfl rfl ?_
            refine ks_aload_n dX2_refuseTransactions_124 rfl rfl ?_
            refine ks_getf (T := TX0) (kf := 5) kx_949 rfl in_X0 cl_X0 (by decide) F3.1 rfl dX2_refuseTransactions_125 rfl ?_
            refine ks_icmp_geN (tgt := 180) (by omega) (by omega) dX2_refuseTransactions_128 (by decide) rfl (fun h5 => ?_) (fun h5 => ?_)
            · omega
            · refine ks_aload_n dX2_refuseTransactions_131 rfl rfl ?_
              refine ks_getf (T := TX2) (kf := 7) kx_741 rfl in_X2 cl_X2 (by decide) O3 rfl dX2_refuseTransactions_132 rfl ?_
              refine ks_aload_n dX2_refuseTransactions_135 rfl rfl ?_
              refine ks_getf (T := TX0) (kf := 0) kx_936 rfl in_X0 cl_X0 (by decide) F3.1 rfl dX2_refuseTransactions_136 rfl ?_
              refine ks_aload_n dX2_refuseTransactions_139 rfl rfl ?_
              refine ks_getf (T := TX0) (kf := 1) kx_938 rfl in_X0 cl_X0 (by decide) F3.1 rfl dX2_refuseTransactions_140 rfl ?_
              refine ks_iload_n dX2_refuseTransactions_143 rfl rfl ?_
              refine ks_ialdN (i := t) F3.2.2.1 rfl (by omega) (by decide) dX2_refuseTransactions_144 rfl ?_
              refine ks_aload_n dX2_refuseTransactions_145 rfl rfl ?_
              refine ks_getf (T := TX0) (kf := 4) kx_946 rfl in_X0 cl_X0 (by decide) F3.1 rfl dX2_refuseTransactions_146 rfl ?_
              refine ks_callV (n := 3) (M' := mX10_read) (c_readM (d := d + 4) (t := t) F3.2.1 F3.2.2.2.2.2.1 h16 eg hbl (by omega) (ef2 t (by omega)) (by omega) hr3) h20 cl_X10 rfl kx_1457 kx_990 kx_991 kx_23 kx_992 (by decide +kernel) rfl (by decide) (Nat.le_of_ble_eq_true rfl) rfl dX2_refuseTransactions_149 rfl (fun z5 T5 y5 => ?_)
              obtain ⟨⟨v5, rfl⟩, u5, tx5, V5⟩ := y5
              have hv5 := hv.trans u5
              have O5 := hv5.at O2 (by decide)
              have F5 := F2.up hv5 (by intro x hx; simp only [List.mem_cons, List.not_mem_nil, or_false] at hx; omega)
              have R5 := V5.raw
              have tx6 := bk_tx5 hbl (t := t) (by omega)
              refine ks_pop dX2_refuseTransactions_152 rfl rfl ?_
              refine ks_aload_n dX2_refuseTransactions_153 rfl rfl ?_
              refine ks_getf (T := TX2) (kf := 7) kx_741 rfl in_X2 cl_X2 (by decide) O5 rfl dX2_refuseTransactions_154 rfl ?_
              refine ks_aload_n dX2_refuseTransactions_157 rfl rfl ?_
              refine ks_getf (T := TX0) (kf := 7) kx_954 rfl in_X0 cl_X0 (by decide) F5.1 rfl dX2_refuseTransactions_158 rfl ?_
              refine ks_aload_n dX2_refuseTransactions_161 rfl rfl ?_
              refine ks_callV (n := 0) (M' := mX0_time) (c_bk_time (d := d + 5) F5) F5.1 cl_X0 rfl kx_1396 kx_1397 kx_1398 kx_29 kx_1399 (by decide +kernel) rfl (by decide) (Nat.le_of_ble_eq_true rfl) rfl dX2_refuseTransactions_162 rfl (fun z6 T6 y6 => ?_)
              obtain ⟨rfl, hT6⟩ := y6
              obtain rfl := hT6.symm
              rw [bk_num (i := 68) (n := 4) eg (by omega), show ks_num (mg M) 68 4 = tmB M from rfl]
              have htm : tmB M < 2 ^ 32 := by unfold tmB; rw [← bk_num (i := 68) (n := 4) eg (by omega)]; exact ks_num_lt hF.2.2.2.2.2.1 4 68
              refine ks_callV (n := 2) (M' := mX10_isLast) (c_tv_isLast (d := d + 4) V5 F5.2.1 F5.2.2.2.2.2.1 h16 (by decide) hh31 htm) V5.1 cl_X10 rfl kx_1487 kx_1488 kx_1489 kx_23 kx_1490 (by decide +kernel) rfl (by decide) (Nat.le_of_ble_eq_true rfl) rfl dX2_refuseTransactions_165 rfl (fun z7 T7 y7 => ?_)
              obtain ⟨rfl, hT7⟩ := y7
              obtain rfl := hT7.symm
              rw [last_c eg tx6, show last_b (mg M) M.length (txP M t).1 (txP M t).2.1 (txP M t).2.2.2.2 hh (tmB M) = laM M hh t from rfl]
              refine ks_if_neZ (tgt := 174) dX2_refuseTransactions_168 (by decide) rfl (fun h6 => ?_) (fun h6 => ?_)
              · refine ks_incN (c := 1) (e := t + 1) dX2_refuseTransactions_174 rfl (by decide) rfl (by decide) rfl ?_
                refine ks_sub [(3, _), (0, _), (1, _), (2, _)] rfl ?_
                refine ks_goto (tgt := 123) dX2_refuseTransactions_177 (by decide) ?_
                exact ks_sub [(0, _), (1, _), (2, _), (3, _)] rfl (ih (t + 1) T5 (by omega) (fun k hk => by
                  by_cases e : k = t
                  · rw [e]; exact h6
                  · exact hal k (by omega)) hv5 R5)
              · refine ks_bipush (x := nI 10) dX2_refuseTransactions_171 (by decide) rfl ?_
                refine ks_iret rfl dX2_refuseTransactions_173 ?_
                rw [if_neg (fun h => h hr0), if_neg hs6, if_pos ⟨t, by omega, h6⟩]
                exact ⟨rfl, fin T5 hv5 R5⟩
        have lo1 : ∀ u t (S1 : ks_S), t + u = c → r1F M u t = rr → ks_up T2 S1 LVw → tvR S1 → ks_X l G mX2_refuseTransactions (d + 7) 40 [(0, .ref 41), (1, .ref b), (2, .int (nI (sum_ (asM M) t))), (3, .int (nI t))] [] S1 (fun z S' => z = some (.int (nI (if rr ≠ 0 then rr else if 60 < sa then 9 else if ∃ t, t < c ∧ laM M hh t = false then 10 else 0))) ∧ ks_up S S' [9, 8, 10, 11, 12, 13, 49, 20, 21, 22, 23, 24, 25, 26, b + 3] ∧ hsO S' ∧ tvR S' ∧ (∃ gr, kO gr ∧ S'.2.2 49 = some (kB 32 gr)) ∧ ∃ g3', bkX S' b (nI M.length) (nI (c)) par (nI hh) wk bad cr g1 f2 g3' g4 ∧ ∀ t, t < c → ∀ j, j < 32 → g3' (32 * t + j) = idB M t j) := by
          intro u
          induction u with
          | zero =>
            intro t S1 htu hr1 hv hr3
            have bs9 := sumB (f := asM M) (b := 7040000) (n := t) (fun i hi => asM_le hbl h16 (by omega))
            have O3 := hv.at O2 (by decide)
            have F3 := F2.up hv (by intro x hx; simp only [List.mem_cons, List.not_mem_nil, or_false] at hx; omega)
            have hob20 : ∃ fs, S1.2.2 20 = some (.inr (13, fs)) := by obtain ⟨vy, i1, i2, i9, x, fA, fS, fZ, hA, hS, hZ, c0, c9⟩ := hr3; exact ⟨_, c0⟩
            obtain ⟨fs20, h20⟩ := hob20
            refine ks_iload_n dX2_refuseTransactions_40 rfl rfl ?_
            refine ks_aload_n dX2_refuseTransactions_41 rfl rfl ?_
            refine ks_getf (T := TX0) (kf := 5) kx_949 rfl in_X0 cl_X0 (by decide) F3.1 rfl dX2_refuseTransactions_42 rfl ?_
            refine ks_icmp_geN (tgt := 112) (by omega) (by omega) dX2_refuseTransactions_45 (by decide) rfl (fun h5 => ?_) (fun h5 => ?_)
            · obtain rfl : t = c := by omega
              rw [hsa] at bs9 ⊢
              have hr0 : rr = 0 := hr1.symm
              refine ks_iload_n dX2_refuseTransactions_112 rfl rfl ?_
              refine ks_bipush (x := nI 60) dX2_refuseTransactions_113 (by decide) rfl ?_
              refine ks_icmp_leN (tgt := 121) (by omega) (by decide) dX2_refuseTransactions_115 (by decide) rfl (fun h6 => ?_) (fun h6 => ?_)
              · refine ks_iconst (x := nI 0) dX2_refuseTransactions_121 (by decide) rfl ?_
                refine ks_istore_n dX2_refuseTransactions_122 (by decide) rfl ?_
                refine ks_sub [(3, _), (0, _), (1, _), (2, _)] rfl ?_
                exact ks_sub [(0, _), (1, _), (2, _), (3, _)] rfl (lo2 hr0 (by omega) t 0 S1 (by omega) (fun k hk => absurd hk (Nat.not_lt_zero k)) hv hr3)
              · refine ks_bipush (x := nI 9) dX2_refuseTransactions_118 (by decide) rfl ?_
                refine ks_iret rfl dX2_refuseTransactions_120 ?_
                rw [if_neg (fun h => h hr0), if_pos (by omega)]
                exact ⟨rfl, fin S1 hv hr3⟩
            · omega
          | succ u ih =>
            intro t S1 htu hr1 hv hr3
            have bs9 := sumB (f := asM M) (b := 7040000) (n := t) (fun i hi => asM_le hbl h16 (by omega))
            have O3 := hv.at O2 (by decide)
            have F3 := F2.up hv (by intro x hx; simp only [List.mem_cons, List.not_mem_nil, or_false] at hx; omega)
            have hob20 : ∃ fs, S1.2.2 20 = some (.inr (13, fs)) := by obtain ⟨vy, i1, i2, i9, x, fA, fS, fZ, hA, hS, hZ, c0, c9⟩ := hr3; exact ⟨_, c0⟩
            obtain ⟨fs20, h20⟩ := hob20
            refine ks_iload_n dX2_refuseTransactions_40 rfl rfl ?_
            refine ks_aload_n dX2_refuseTransactions_41 rfl rfl ?_
            refine ks_getf (T := TX0) (kf := 5) kx_949 rfl in_X0 cl_X0 (by decide) F3.1 rfl dX2_refuseTransactions_42 rfl ?_
            refine ks_icmp_geN (tgt := 112) (by omega) (by omega) dX2_refuseTransactions_45 (by decide) rfl (fun h5 => ?_) (fun h5 => ?_)
            · omega
            · rw [r1F] at hr1
              refine ks_aload_n dX2_refuseTransactions_48 rfl rfl ?_
              refine ks_getf (T := TX2) (kf := 7) kx_741 rfl in_X2 cl_X2 (by decide) O3 rfl dX2_refuseTransactions_49 rfl ?_
              refine ks_aload_n dX2_refuseTransactions_52 rfl rfl ?_
              refine ks_getf (T := TX0) (kf := 0) kx_936 rfl in_X0 cl_X0 (by decide) F3.1 rfl dX2_refuseTransactions_53 rfl ?_
              refine ks_aload_n dX2_refuseTransactions_56 rfl rfl ?_
              refine ks_getf (T := TX0) (kf := 1) kx_938 rfl in_X0 cl_X0 (by decide) F3.1 rfl dX2_refuseTransactions_57 rfl ?_
              refine ks_iload_n dX2_refuseTransactions_60 rfl rfl ?_
              refine ks_ialdN (i := t) F3.2.2.1 rfl (by omega) (by decide) dX2_refuseTransactions_61 rfl ?_
              refine ks_aload_n dX2_refuseTransactions_62 rfl rfl ?_
              refine ks_getf (T := TX0) (kf := 4) kx_946 rfl in_X0 cl_X0 (by decide) F3.1 rfl dX2_refuseTransactions_63 rfl ?_
              refine ks_callV (n := 3) (M' := mX10_read) (c_readM (d := d + 4) (t := t) F3.2.1 F3.2.2.2.2.2.1 h16 eg hbl (by omega) (ef2 t (by omega)) (by omega) hr3) h20 cl_X10 rfl kx_1457 kx_990 kx_991 kx_23 kx_992 (by decide +kernel) rfl (by decide) (Nat.le_of_ble_eq_true rfl) rfl dX2_refuseTransactions_66 rfl (fun z5 T5 y5 => ?_)
              obtain ⟨⟨v5, rfl⟩, u5, tx5, V5⟩ := y5
              have hv5 := hv.trans u5
              have O5 := hv5.at O2 (by decide)
              have F5 := F2.up hv5 (by intro x hx; simp only [List.mem_cons, List.not_mem_nil, or_false] at hx; omega)
              have R5 := V5.raw
              have tx6 := bk_tx5 hbl (t := t) (by omega)
              have k83 : ks_X l G mX2_refuseTransactions (d + 7) 83 [(0, .ref 41), (1, .ref b), (2, .int (nI (sum_ (asM M) t))), (3, .int (nI t))] [.int (ks_bo (decide (t = 0))), .ref 20] T5 (fun z S' => z = some (.int (nI (if rr ≠ 0 then rr else if 60 < sa then 9 else if ∃ t, t < c ∧ laM M hh t = false then 10 else 0))) ∧ ks_up S S' [9, 8, 10, 11, 12, 13, 49, 20, 21, 22, 23, 24, 25, 26, b + 3] ∧ hsO S' ∧ tvR S' ∧ (∃ gr, kO gr ∧ S'.2.2 49 = some (kB 32 gr)) ∧ ∃ g3', bkX S' b (nI M.length) (nI (c)) par (nI hh) wk bad cr g1 f2 g3' g4 ∧ ∀ t, t < c → ∀ j, j < 32 → g3' (32 * t + j) = idB M t j) := by
                refine ks_callV (n := 1) (M' := mX10_refusal) (c_tv_refusal (d := d + 3) (first := decide (t = 0)) V5 F5.2.1 F5.2.2.2.2.2.1 h16 (by decide)) V5.1 cl_X10 rfl kx_1458 kx_1459 kx_1460 kx_23 kx_1461 (by decide +kernel) rfl (by decide) (Nat.le_of_ble_eq_true rfl) rfl dX2_refuseTransactions_83 rfl (fun z6 T6 y6 => ?_)
                obtain ⟨rfl, hT6⟩ := y6
                obtain rfl := hT6.symm
                rw [rf_c eg tx6, show rf_ (mg M) M.length (txP M t).1 (txP M t).2.1 (txP M t).2.2.1 (txP M t).2.2.2.1 (decide (t = 0)) = rfM M t from rfl]
                have rf8 : rfM M t ≤ 8 := rf_le _ _ _ _ _ _ _
                refine ks_istore dX2_refuseTransactions_86 (by decide) rfl ?_
                refine ks_sub [(4, _), (0, _), (1, _), (2, _), (3, _)] rfl ?_
                refine ks_iload dX2_refuseTransactions_88 rfl rfl ?_
                refine ks_if_eqN (tgt := 96) (by omega) dX2_refuseTransactions_90 (by decide) rfl (fun h6 => ?_) (fun h6 => ?_)
                · rw [if_pos h6] at hr1
                  refine ks_iload_n dX2_refuseTransactions_96 rfl rfl ?_
                  refine ks_aload_n dX2_refuseTransactions_97 rfl rfl ?_
                  refine ks_getf (T := TX2) (kf := 7) kx_741 rfl in_X2 cl_X2 (by decide) O5 rfl dX2_refuseTransactions_98 rfl ?_
                  refine ks_callV (n := 0) (M' := mX10_asks) (c_tv_asks (d := d + 3) V5 F5.2.1 F5.2.2.2.2.2.1 h16 (by decide) h16) V5.1 cl_X10 rfl kx_1480 kx_1481 kx_1482 kx_23 kx_1483 (by decide +kernel) rfl (by decide) (Nat.le_of_ble_eq_true rfl) rfl dX2_refuseTransactions_101 rfl (fun z7 T7 y7 => ?_)
                  obtain ⟨rfl, hT7⟩ := y7
                  obtain rfl := hT7.symm
                  rw [asT_c eg tx6, show asT (mg M) M.length (txP M t).1 (txP M t).2.1 (txP M t).2.2.1 (txP M t).2.2.2.1 = asM M t from rfl]
                  refine ks_addN dX2_refuseTransactions_104 rfl ?_
                  refine ks_istore_n dX2_refuseTransactions_105 (by decide) rfl ?_
                  refine ks_sub [(2, _), (0, _), (1, _), (3, _), (4, _)] rfl ?_
                  refine ks_incN (c := 1) (e := t + 1) dX2_refuseTransactions_106 rfl (by decide) rfl (by decide) rfl ?_
                  refine ks_sub [(3, _), (0, _), (1, _), (2, _), (4, _)] rfl ?_
                  refine ks_goto (tgt := 40) dX2_refuseTransactions_109 (by decide) ?_
                  exact ks_sub [(0, _), (1, _), (2, _), (3, _)] rfl (ih (t + 1) T5 (by omega) hr1 hv5 R5)
                · refine ks_iload dX2_refuseTransactions_93 rfl rfl ?_
                  refine ks_iret rfl dX2_refuseTransactions_95 ?_
                  rw [if_neg h6] at hr1
                  rw [if_pos (by rw [← hr1]; exact h6), ← hr1]
                  exact ⟨rfl, fin T5 hv5 R5⟩
              refine ks_pop dX2_refuseTransactions_69 rfl rfl ?_
              refine ks_aload_n dX2_refuseTransactions_70 rfl rfl ?_
              refine ks_getf (T := TX2) (kf := 7) kx_741 rfl in_X2 cl_X2 (by decide) O5 rfl dX2_refuseTransactions_71 rfl ?_
              refine ks_iload_n dX2_refuseTransactions_74 rfl rfl ?_
              refine ks_if_neN (tgt := 82) (by omega) dX2_refuseTransactions_75 (by decide) rfl (fun h6 => ?_) (fun h6 => ?_)
              · refine ks_iconst (x := nI 0) dX2_refuseTransactions_82 (by decide) rfl ?_
                refine ks_ti (y := ks_bo (decide (t = 0))) (by rw [decide_eq_false h6]; rfl) ?_
                exact ks_sub [(0, _), (1, _), (2, _), (3, _)] rfl k83
              · refine ks_iconst (x := nI 1) dX2_refuseTransactions_78 (by decide) rfl ?_
                refine ks_goto (tgt := 83) dX2_refuseTransactions_79 (by decide) ?_
                refine ks_ti (y := ks_bo (decide (t = 0))) (by rw [decide_eq_true h6]; rfl) ?_
                exact ks_sub [(0, _), (1, _), (2, _), (3, _)] rfl k83
        refine ks_iconst (x := nI 0) dX2_refuseTransactions_36 (by decide) rfl ?_
        refine ks_istore_n dX2_refuseTransactions_37 (by decide) rfl ?_
        refine ks_sub [(2, _), (0, _), (1, _)] rfl ?_
        refine ks_iconst (x := nI 0) dX2_refuseTransactions_38 (by decide) rfl ?_
        refine ks_istore_n dX2_refuseTransactions_39 (by decide) rfl ?_
        refine ks_sub [(3, _), (0, _), (1, _), (2, _)] rfl ?_
        exact ks_sub [(0, _), (1, _), (2, _), (3, _)] rfl (lo1 c 0 T2 (by omega) hrr (ks_up.rf _ _) R2)
      · refine ks_bipush (x := nI 6) dX2_refuseTransactions_33 (by decide) rfl ?_
        refine ks_iret rfl dX2_refuseTransactions_35 ?_
        rw [if_pos (Or.inr h4)]
        exact ⟨rfl, fin T2 (ks_up.rf _ _) R2⟩
  · refine ks_bipush (x := nI 7) dX2_refuseTransactions_7 (by decide) rfl ?_
    refine ks_iret rfl dX2_refuseTransactions_9 ?_
    rw [if_pos h1]
    exact ⟨rfl, ks_up.rf _ _, hH, hR, ⟨gr, hgr, h49⟩, g3, hF, fun t ht => absurd ht (by omega)⟩
