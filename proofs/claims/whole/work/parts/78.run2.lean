/-! MACHINE: run, the whole -/
theorem rnS_nil (GD : List Nat → List Nat → List Nat → Bool) (LK : Int → Bool) (f : Nat) (bg : List Nat) (ops : Nat) (xs ys : List (List Nat)) (cs : List Bool) : rnS GD LK f [] bg ops xs ys cs = if cs = [] then some (xs, ys) else none := by cases f <;> rfl
def rnO (S : ks_S) (inp u0 b : Nat) (r : Option (List (List Nat) × List (List Nat))) (z : Option Value) (S1 : ks_S) : Prop := match r with
  | none => z = some (.int (ks_bo false)) ∧ rnF S S1 inp
  | some q => z = some (.int (ks_bo true)) ∧ rnF S S1 inp ∧ stV LRn S S1 u0 ∧ ∃ u2, u0 ≤ u2 ∧ u2 ≤ u0 + b ∧ q.1.length ≤ 1000 ∧ st_ok S1 q.1 q.2 u2
set_option maxRecDepth 100000 in
set_option maxHeartbeats 800000 in
theorem l_rnLoop {l : Launch} {G : ks_G} {d : Nat} {S : ks_S} {inp cy till Nc u0 fr : Nat} {gc : Nat → Nat} {y9 N9 L9 b9 k9 p9 m9 u9 e9 : Nat} {g9 : Nat → Nat} (hma : mathOK) (hV : tv_ok S y9 g9 L9 b9 k9 p9 m9 u9 e9) (hy9 : S.2.2 y9 = some (kB N9 g9)) (hg9 : kO g9) (hL9 : L9 ≤ N9) (hN9 : N9 < 2 ^ 18) (hi9 : inp < k9) (he9 : e9 ≤ u9 + 4000) (hyn : 56 ≤ y9) (hK : ks_stOK S) (hcy : cy ∉ LRn ∨ (cy = 30 ∧ Nc = 24096 ∧ till ≤ u0)) (hNc : Nc < 2 ^ 20) (hti : till ≤ Nc) (h16 : till - fr ≤ 1600) (hbu : u0 + (till - fr) + 6432 ≤ 24096) : ∀ (f : Nat) (S1 : ks_S) (i pos pb ops u : Nat) (xs ys : List (List Nat)) (cs : List Bool), till - pos ≤ f → i ≤ pos → fr ≤ pos → rnI S S1 inp cy till Nc gc u0 fr pos pb ops xs ys cs u → ks_X l G mX7_run (d + 6) 45 [(0, .ref 27), (1, .ref cy), (2, .int (nI fr)), (3, .int (nI till)), (4, .int (nI i))] [] S1 (rnO S inp u0 (till - fr + 6432) (rnS (fun code k s => ecG k s (sgH g9 L9 b9 k9 p9 m9 u9 e9 inp (s.getD (s.length - 1) 0) code)) (lkB g9 L9 p9 e9 inp) f (bytL gc pos (till - pos)) (bytL gc pb (till - pb)) ops xs ys cs)) := by
  intro f
  induction f with
  | zero =>
    intro S1 i pos pb ops u xs ys cs hf hip hfp hI
    have hI2 := hI
    obtain ⟨hv, hW, hO, hX, hR, ⟨i1, i2, i3, i4, hM⟩, hu0, hub, ho2, hcs, hl, hfb, hbp, hpt⟩ := hI2
    refine ks_iload dX7_run_45 rfl rfl ?_
    refine ks_iload_n dX7_run_47 rfl rfl ?_
    refine ks_icmp_geN (tgt := 290) (by omega) (by omega) dX7_run_48 (by decide) rfl (fun h1 => ?_) (fun h1 => ?_)
    · refine ks_aload_n dX7_run_290 rfl rfl ?_
      refine ks_getf (T := TX7) (kf := 14) kx_657 rfl in_X7 cl_X7 (by decide) hM rfl dX7_run_291 rfl ?_
      refine ks_if_neN (tgt := 301) (by omega) dX7_run_294 (by decide) rfl (fun h9 => ?_) (fun h9 => ?_)
      · refine ks_iconst (x := nI 0) dX7_run_301 (by decide) rfl ?_
        refine ks_zret rfl rfl dX7_run_302 ?_
        obtain rfl : pos = till := by omega
        rw [Nat.sub_self, show bytL gc pos 0 = [] from rfl, rnS_nil]
        rw [if_neg (fun h => h9 (by rw [h]; rfl))]
        exact ⟨rfl, hv.1, hW, ⟨_, _, _, hO⟩, hX.row, _, _, _, _, _, _, _, _, _, _, _, hM⟩
      · refine ks_iconst (x := nI 1) dX7_run_297 (by decide) rfl ?_
        refine ks_goto (tgt := 302) dX7_run_298 (by decide) ?_
        refine ks_zret rfl rfl dX7_run_302 ?_
        obtain rfl : pos = till := by omega
        rw [Nat.sub_self, show bytL gc pos 0 = [] from rfl, rnS_nil]
        have hc0 : cs = [] := List.eq_nil_of_length_eq_zero h9
        rw [if_pos hc0]
        exact ⟨rfl, ⟨hv.1, hW, ⟨_, _, _, hO⟩, hX.row, _, _, _, _, _, _, _, _, _, _, _, hM⟩, hv, u, hu0, by omega, (by show xs.length ≤ 1000; omega), hO⟩
    · refine ks_aload_n dX7_run_51 rfl rfl ?_
      refine ks_getf (T := TX7) (kf := 10) kx_653 rfl in_X7 cl_X7 (by decide) hM rfl dX7_run_52 rfl ?_
      refine ks_iload_n dX7_run_55 rfl rfl ?_
      refine ks_icmp_geN (tgt := 290) (by omega) (by omega) dX7_run_56 (by decide) rfl (fun h2 => ?_) (fun h2 => ?_)
      · refine ks_aload_n dX7_run_290 rfl rfl ?_
        refine ks_getf (T := TX7) (kf := 14) kx_657 rfl in_X7 cl_X7 (by decide) hM rfl dX7_run_291 rfl ?_
        refine ks_if_neN (tgt := 301) (by omega) dX7_run_294 (by decide) rfl (fun h9 => ?_) (fun h9 => ?_)
        · refine ks_iconst (x := nI 0) dX7_run_301 (by decide) rfl ?_
          refine ks_zret rfl rfl dX7_run_302 ?_
          obtain rfl : pos = till := by omega
          rw [Nat.sub_self, show bytL gc pos 0 = [] from rfl, rnS_nil]
          rw [if_neg (fun h => h9 (by rw [h]; rfl))]
          exact ⟨rfl, hv.1, hW, ⟨_, _, _, hO⟩, hX.row, _, _, _, _, _, _, _, _, _, _, _, hM⟩
        · refine ks_iconst (x := nI 1) dX7_run_297 (by decide) rfl ?_
          refine ks_goto (tgt := 302) dX7_run_298 (by decide) ?_
          refine ks_zret rfl rfl dX7_run_302 ?_
          obtain rfl : pos = till := by omega
          rw [Nat.sub_self, show bytL gc pos 0 = [] from rfl, rnS_nil]
          have hc0 : cs = [] := List.eq_nil_of_length_eq_zero h9
          rw [if_pos hc0]
          exact ⟨rfl, ⟨hv.1, hW, ⟨_, _, _, hO⟩, hX.row, _, _, _, _, _, _, _, _, _, _, _, hM⟩, hv, u, hu0, by omega, (by show xs.length ≤ 1000; omega), hO⟩
      · omega
  | succ f ih =>
    intro S1 i pos pb ops u xs ys cs hf hip hfp hI
    have hI2 := hI
    obtain ⟨hv, hW, hO, hX, hR, ⟨i1, i2, i3, i4, hM⟩, hu0, hub, ho2, hcs, hl, hfb, hbp, hpt⟩ := hI2
    refine ks_iload dX7_run_45 rfl rfl ?_
    refine ks_iload_n dX7_run_47 rfl rfl ?_
    refine ks_icmp_geN (tgt := 290) (by omega) (by omega) dX7_run_48 (by decide) rfl (fun h1 => ?_) (fun h1 => ?_)
    · refine ks_aload_n dX7_run_290 rfl rfl ?_
      refine ks_getf (T := TX7) (kf := 14) kx_657 rfl in_X7 cl_X7 (by decide) hM rfl dX7_run_291 rfl ?_
      refine ks_if_neN (tgt := 301) (by omega) dX7_run_294 (by decide) rfl (fun h9 => ?_) (fun h9 => ?_)
      · refine ks_iconst (x := nI 0) dX7_run_301 (by decide) rfl ?_
        refine ks_zret rfl rfl dX7_run_302 ?_
        obtain rfl : pos = till := by omega
        rw [Nat.sub_self, show bytL gc pos 0 = [] from rfl, rnS_nil]
        rw [if_neg (fun h => h9 (by rw [h]; rfl))]
        exact ⟨rfl, hv.1, hW, ⟨_, _, _, hO⟩, hX.row, _, _, _, _, _, _, _, _, _, _, _, hM⟩
      · refine ks_iconst (x := nI 1) dX7_run_297 (by decide) rfl ?_
        refine ks_goto (tgt := 302) dX7_run_298 (by decide) ?_
        refine ks_zret rfl rfl dX7_run_302 ?_
        obtain rfl : pos = till := by omega
        rw [Nat.sub_self, show bytL gc pos 0 = [] from rfl, rnS_nil]
        have hc0 : cs = [] := List.eq_nil_of_length_eq_zero h9
        rw [if_pos hc0]
        exact ⟨rfl, ⟨hv.1, hW, ⟨_, _, _, hO⟩, hX.row, _, _, _, _, _, _, _, _, _, _, _, hM⟩, hv, u, hu0, by omega, (by show xs.length ≤ 1000; omega), hO⟩
    · refine ks_aload_n dX7_run_51 rfl rfl ?_
      refine ks_getf (T := TX7) (kf := 10) kx_653 rfl in_X7 cl_X7 (by decide) hM rfl dX7_run_52 rfl ?_
      refine ks_iload_n dX7_run_55 rfl rfl ?_
      refine ks_icmp_geN (tgt := 290) (by omega) (by omega) dX7_run_56 (by decide) rfl (fun h2 => ?_) (fun h2 => ?_)
      · refine ks_aload_n dX7_run_290 rfl rfl ?_
        refine ks_getf (T := TX7) (kf := 14) kx_657 rfl in_X7 cl_X7 (by decide) hM rfl dX7_run_291 rfl ?_
        refine ks_if_neN (tgt := 301) (by omega) dX7_run_294 (by decide) rfl (fun h9 => ?_) (fun h9 => ?_)
        · refine ks_iconst (x := nI 0) dX7_run_301 (by decide) rfl ?_
          refine ks_zret rfl rfl dX7_run_302 ?_
          obtain rfl : pos = till := by omega
          rw [Nat.sub_self, show bytL gc pos 0 = [] from rfl, rnS_nil]
          rw [if_neg (fun h => h9 (by rw [h]; rfl))]
          exact ⟨rfl, hv.1, hW, ⟨_, _, _, hO⟩, hX.row, _, _, _, _, _, _, _, _, _, _, _, hM⟩
        · refine ks_iconst (x := nI 1) dX7_run_297 (by decide) rfl ?_
          refine ks_goto (tgt := 302) dX7_run_298 (by decide) ?_
          refine ks_zret rfl rfl dX7_run_302 ?_
          obtain rfl : pos = till := by omega
          rw [Nat.sub_self, show bytL gc pos 0 = [] from rfl, rnS_nil]
          have hc0 : cs = [] := List.eq_nil_of_length_eq_zero h9
          rw [if_pos hc0]
          exact ⟨rfl, ⟨hv.1, hW, ⟨_, _, _, hO⟩, hX.row, _, _, _, _, _, _, _, _, _, _, _, hM⟩, hv, u, hu0, by omega, (by show xs.length ≤ 1000; omega), hO⟩
      · refine l_rnStep (f := f) hma hV hy9 hg9 hL9 hN9 hi9 he9 hyn hK hcy hNc hti h16 hbu hI (by omega) hip (fun S2 pos2 pb2 ops2 u2 xs2 ys2 cs2 hlt I2 e2 => ?_) (fun S2 F2 e2 => ?_)
        · refine ks_incN (c := 1) (e := i + 1) dX7_run_284 rfl (by decide) rfl (by decide) rfl ?_
          refine ks_sub [(4, _), (0, _), (1, _), (2, _), (3, _)] rfl ?_
          refine ks_goto (tgt := 45) dX7_run_287 (by decide) ?_
          rw [e2]
          exact ks_sub [(0, _), (1, _), (2, _), (3, _), (4, _)] rfl (ih S2 (i + 1) pos2 pb2 ops2 u2 xs2 ys2 cs2 (by omega) (by omega) (by omega) I2)
        · rw [e2]
          exact ⟨rfl, F2⟩
set_option maxRecDepth 100000 in
set_option maxHeartbeats 800000 in
theorem c_mc_run {l : Launch} {G : ks_G} {d : Nat} {S : ks_S} {inp cy till Nc u0 fr : Nat} {gc : Nat → Nat} {y9 N9 L9 b9 k9 p9 m9 u9 e9 : Nat} {g9 : Nat → Nat} {xs ys : List (List Nat)} {vc : Value} {j1 j2 j3 j4 j5 j6 j7 j8 j9 j10 : Int32} (hM : S.2.2 27 = some (.inr (10, [.ref 28, .ref 7, .ref 14, .ref 29, .ref 36, .ref 37, .ref 39, .ref 20, .int (nI inp), vc, .int j1, .int j2, .int j3, .int j4, .int j5, .int j6, .int j7, .int j8, .int j9, .int j10]))) (hma : mathOK) (hV : tv_ok S y9 g9 L9 b9 k9 p9 m9 u9 e9) (hy9 : S.2.2 y9 = some (kB N9 g9)) (hg9 : kO g9) (hL9 : L9 ≤ N9) (hN9 : N9 < 2 ^ 18) (hi9 : inp < k9) (he9 : e9 ≤ u9 + 4000) (hyn : 56 ≤ y9) (hK : ks_stOK S) (hcy : cy ∉ LRn ∨ (cy = 30 ∧ Nc = 24096 ∧ till ≤ u0)) (hNc : Nc < 2 ^ 20) (hti : till ≤ Nc) (h16 : till - fr ≤ 1600) (hbu : u0 + (till - fr) + 6432 ≤ 24096) (hO : st_ok S xs ys u0) (hW : mcW S) (hD : ∃ dn, S.2.2 36 = some (kZ 202 dn)) (hg0 : S.2.2 cy = some (kB Nc gc)) (hgc : kO gc) (hft : fr ≤ till) (hl : xs.length ≤ 1000) : ks_P l G yX7_run mX7_run (d + 6) [.ref 27, .ref cy, .int (nI fr), .int (nI till)] S (rnO S inp u0 (till - fr + 6432) (rnS (fun code k s => ecG k s (sgH g9 L9 b9 k9 p9 m9 u9 e9 inp (s.getD (s.length - 1) 0) code)) (lkB g9 L9 p9 e9 inp) (till - fr) (bytL gc fr (till - fr)) (bytL gc fr (till - fr)) 0 xs [] [])) := by
  refine ks_of (by decide) rfl rfl (Nat.le_of_ble_eq_true rfl) ?_
  show ks_X l G mX7_run (d + 6) 0 [(0, .ref 27), (1, .ref cy), (2, .int (nI fr)), (3, .int (nI till))] [] S _
  refine ks_aload_n dX7_run_0 rfl rfl ?_
  refine ks_aload_n dX7_run_1 rfl rfl ?_
  refine ks_putf (T := TX7) (kf := 9) kx_652 rfl in_X7 tyX7_ok nmX7 cl_X7 (by decide) hM (Nat.le_of_ble_eq_true rfl) rfl rfl rfl rfl dX7_run_2 rfl ?_
  refine ks_aload_n dX7_run_5 rfl rfl ?_
  refine ks_iload_n dX7_run_6 rfl rfl ?_
  refine ks_putf (T := TX7) (kf := 10) kx_653 rfl in_X7 tyX7_ok nmX7 cl_X7 (by decide) (ks_set_same _ _ _) (Nat.le_of_ble_eq_true rfl) rfl rfl rfl rfl dX7_run_7 rfl ?_
  refine ks_aload_n dX7_run_10 rfl rfl ?_
  refine ks_iload_n dX7_run_11 rfl rfl ?_
  refine ks_putf (T := TX7) (kf := 11) kx_654 rfl in_X7 tyX7_ok nmX7 cl_X7 (by decide) (ks_set_same _ _ _) (Nat.le_of_ble_eq_true rfl) rfl rfl rfl rfl dX7_run_12 rfl ?_
  refine ks_aload_n dX7_run_15 rfl rfl ?_
  refine ks_iload_n dX7_run_16 rfl rfl ?_
  refine ks_putf (T := TX7) (kf := 12) kx_655 rfl in_X7 tyX7_ok nmX7 cl_X7 (by decide) (ks_set_same _ _ _) (Nat.le_of_ble_eq_true rfl) rfl rfl rfl rfl dX7_run_17 rfl ?_
  refine ks_aload_n dX7_run_20 rfl rfl ?_
  refine ks_iconst (x := nI 0) dX7_run_21 (by decide) rfl ?_
  refine ks_putf (T := TX7) (kf := 13) kx_656 rfl in_X7 tyX7_ok nmX7 cl_X7 (by decide) (ks_set_same _ _ _) (Nat.le_of_ble_eq_true rfl) rfl rfl rfl rfl dX7_run_22 rfl ?_
  refine ks_aload_n dX7_run_25 rfl rfl ?_
  refine ks_iconst (x := nI 0) dX7_run_26 (by decide) rfl ?_
  refine ks_putf (T := TX7) (kf := 14) kx_657 rfl in_X7 tyX7_ok nmX7 cl_X7 (by decide) (ks_set_same _ _ _) (Nat.le_of_ble_eq_true rfl) rfl rfl rfl rfl dX7_run_27 rfl ?_
  refine ks_aload_n dX7_run_30 rfl rfl ?_
  refine ks_iconst (x := nI 0) dX7_run_31 (by decide) rfl ?_
  refine ks_putf (T := TX7) (kf := 15) kx_658 rfl in_X7 tyX7_ok nmX7 cl_X7 (by decide) (ks_set_same _ _ _) (Nat.le_of_ble_eq_true rfl) rfl rfl rfl rfl dX7_run_32 rfl ?_
  refine ks_aload_n dX7_run_35 rfl rfl ?_
  refine ks_getf (T := TX7) (kf := 3) kx_646 rfl in_X7 cl_X7 (by decide) (ks_set_same _ _ _) rfl dX7_run_36 rfl ?_
  obtain ⟨S1, hS1⟩ : ∃ S1, S1 = ks_set S 27 (mcO inp cy fr till fr 0 0 0 j7 j8 j9 j10) := ⟨_, rfl⟩
  refine ks_tS (S' := S1) (by rw [hS1]; simp only [ks_set_set]; rfl) ?_
  have u1 : ks_up S S1 [27] := by rw [hS1]; exact ks_up_set _ _ (by decide)
  have M1 : S1.2.2 27 = some (mcO inp cy fr till fr 0 0 0 j7 j8 j9 j10) := by rw [hS1]; exact ks_set_same _ _ _
  have O1 : st_ok S1 xs ys u0 := hO.up u1 (by decide)
  have hc27 : cy ≠ 27 := fun e => by subst e; rcases hcy with h | h; exact h (by decide); exact absurd h.1 (by decide)
  refine ks_callV (n := 0) (M' := mX8_clearOther) (c_st_clearOther (d := d + 5) O1) O1.ob cl_X8 rfl kx_1559 kx_1560 kx_1561 kx_25 kx_1562 (by decide +kernel) rfl (by decide) (Nat.le_of_ble_eq_true rfl) rfl dX7_run_39 rfl (fun z2 T2 y2 => ?_)
  obtain ⟨rfl, v2, O2⟩ := y2
  have M2 := v2.1.at M1 (by decide)
  have s1 : stV LRn S S1 u0 := stV.of u1 (by decide) (by decide)
  have s2 : stV LRn S1 T2 u0 := v2.v (by decide)
  have s12 := s1.trans s2 (Nat.le_refl _)
  have W2 : mcW T2 := (hW.up u1 (by decide)).up v2.1 (by decide)
  obtain ⟨dn, hdn⟩ := hD
  have X2 : cdX T2 [] := ⟨dn, v2.1.at (u1.at hdn (by decide)) (by decide), rfl⟩
  have R0 : cdR S cy Nc till gc := ⟨gc, hgc, hg0, fun _ _ => rfl⟩
  have bd := O2.bd
  have R2 : cdR T2 cy Nc till gc := R0.step s12 hcy
  refine ks_iload_n dX7_run_42 rfl rfl ?_
  refine ks_istore dX7_run_43 (by decide) rfl ?_
  refine ks_sub [(4, _), (0, _), (1, _), (2, _), (3, _)] rfl ?_
  exact ks_sub [(0, _), (1, _), (2, _), (3, _), (4, _)] rfl (l_rnLoop hma hV hy9 hg9 hL9 hN9 hi9 he9 hyn hK hcy hNc hti h16 hbu (till - fr) T2 fr fr fr 0 u0 xs [] [] (Nat.le_refl _) (Nat.le_refl _) (Nat.le_refl _) ⟨s12, W2, O2, X2, R2, ⟨_, _, _, _, M2⟩, Nat.le_refl _, by omega, by decide, Nat.le_refl _, by simpa using hl, Nat.le_refl _, Nat.le_refl _, hft⟩)
