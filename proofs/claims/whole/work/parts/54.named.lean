/-! MACHINE: the hash that is signed -/
theorem catL_len_le {α : Type} {f : α → List Nat} {b : Nat} : ∀ {l : List α}, (∀ x ∈ l, (f x).length ≤ b) → (catL f l).length ≤ b * l.length
  | [], _ => Nat.zero_le _
  | x :: r, h => by
    have h1 := h x List.mem_cons_self
    have h2 := catL_len_le (f := f) (l := r) (fun y hy => h y (List.mem_cons_of_mem x hy))
    show (f x ++ (List.map f r).flatten).length ≤ b * (r.length + 1)
    rw [List.length_append, Nat.mul_succ]
    unfold catL at h2
    omega
theorem catL_app {α : Type} (f : α → List Nat) (l r : List α) : catL f (l ++ r) = catL f l ++ catL f r := by
  unfold catL
  rw [List.map_append, List.flatten_append]
theorem sgOut_le {g : Nat → Nat} {b L k p m u e inp kd : Nat} (h : tx_ g b L = some (k, p, m, u, e)) : ∀ n, n ≤ m → (catL (sgOut g L u inp kd) ((List.range n).map (0 + ·))).length ≤ e - u + 9 * inp + 9
  := by
  have hx : ∀ n, n ≤ m → ∃ a, ot g L u n = some a ∧ u ≤ a ∧ a + 4 ≤ e ∧ (catL (sgOut g L u inp kd) ((List.range n).map (0 + ·))).length ≤ a - u + (if n ≤ inp then 9 * n else 9 * inp) := by
    intro n
    induction n with
    | zero =>
      intro _
      refine ⟨u, rfl, Nat.le_refl u, ?_, Nat.zero_le _⟩
      have := tx_bd h
      omega
    | succ n ih =>
      intro hn
      obtain ⟨a, h1, h2, h3, h4⟩ := ih (by omega)
      obtain ⟨o1, o2, o3, o4, o5⟩ := tx_out h n (by omega)
      have ea : a = oA g L u n := Option.some.inj (h1.symm.trans o1)
      refine ⟨oS g L u n + oZ g L u n, ot_s o1 o2, by omega, by omega, ?_⟩
      rw [List.range_succ, List.map_append, catL_app, List.length_append]
      have e1 : (catL (sgOut g L u inp kd) ([n].map (0 + ·))).length = (sgOut g L u inp kd n).length := by
        show (sgOut g L u inp kd (0 + n) ++ []).length = _
        rw [List.append_nil, Nat.zero_add]
      rw [e1]
      unfold sgOut
      split
      · next c =>
        rw [List.length_append, numL_len, cntL_len, if_pos (by decide), if_pos (by omega)]
        rw [if_pos (by omega)] at h4
        unfold sgOut at h4
        omega
      · next c =>
        rw [bytL_len]
        unfold sgOut at h4
        split at h4 <;> split <;> omega
  intro n hn
  obtain ⟨a, h1, h2, h3, h4⟩ := hx n hn
  split at h4 <;> omega
theorem sgIn_len (g : Nat → Nat) (L p inp kd : Nat) (code : List Nat) (i : Nat) : (sgIn g L p inp kd code i).length ≤ 43 + (if i = inp then code.length else 0) := by
  unfold sgIn
  rw [List.length_append, List.length_append, List.length_append, bytL_len, cntL_len]
  have h4 : (if ¬ i = inp ∧ (kd = 2 ∨ kd = 3) then numL 0 4 else bytL g (iS g L p i + iZ g L p i) 4).length = 4 := by split; exact numL_len _ _; exact bytL_len _ _ _
  rw [h4]
  by_cases c : i = inp
  · rw [if_pos c, if_pos c]
    split <;> omega
  · rw [if_neg c, if_neg c, if_pos (by decide)]
    simp
theorem sgIns_len (g : Nat → Nat) (L p inp kd : Nat) (code : List Nat) (s : Nat) : ∀ n, (catL (sgIn g L p inp kd code) ((List.range n).map (s + ·))).length ≤ 43 * n + (if s ≤ inp ∧ inp < s + n then code.length else 0)
  | 0 => by
    show 0 ≤ _
    exact Nat.zero_le _
  | n + 1 => by
    have ih := sgIns_len g L p inp kd code s n
    rw [List.range_succ, List.map_append, catL_app, List.length_append]
    have e1 : (catL (sgIn g L p inp kd code) ([n].map (s + ·))).length = (sgIn g L p inp kd code (s + n)).length := by
      show (sgIn g L p inp kd code (s + n) ++ []).length = _
      rw [List.append_nil]
    rw [e1]
    have h2 := sgIn_len g L p inp kd code (s + n)
    by_cases c : s + n = inp
    · rw [if_pos c] at h2
      rw [if_neg (by omega)] at ih
      rw [if_pos (by omega)]
      omega
    · rw [if_neg c] at h2
      split at ih
      · rw [if_pos (by omega)]; omega
      · rw [if_neg (by omega)]; omega
theorem sgL_le {g : Nat → Nat} {b L k p m u e inp ty : Nat} {code : List Nat} (h : tx_ g b L = some (k, p, m, u, e)) (hi : inp < k) (hc : code.length ≤ 1600) (he : e ≤ u + 4000) (h3 : ¬ (ty % 32 = 3 ∧ m ≤ inp)) : (sgL g L b k p m u e inp ty code).length ≤ 8000 := by
  have bd := tx_bd h
  unfold sgL
  simp only [List.length_append, bytL_len, numL_len]
  have c1 : (cntL (sgN k (sgAl ty))).length ≤ 3 := by rw [cntL_len]; split <;> decide
  have c2 : (cntL (sgSh m inp (ty % 32))).length ≤ 3 := by rw [cntL_len]; split <;> decide
  have i1 := sgIns_len g L p inp (ty % 32) code (sgI0 inp (sgAl ty)) (sgN k (sgAl ty))
  have n1 : sgN k (sgAl ty) ≤ 40 := by unfold sgN; split <;> omega
  have s1 : sgSh m inp (ty % 32) ≤ m := by unfold sgSh; split; omega; split; omega; exact Nat.le_refl m
  have o1 := sgOut_le (inp := inp) (kd := ty % 32) h _ s1
  have c9 : (if sgI0 inp (sgAl ty) ≤ inp ∧ inp < sgI0 inp (sgAl ty) + sgN k (sgAl ty) then code.length else 0) ≤ 1600 := by split <;> omega
  omega
/-- the hash that is signed for an input -/
def sgH (g : Nat → Nat) (L b k p m u e inp ty : Nat) (code : List Nat) : List Nat := if ty % 32 = 3 ∧ m ≤ inp then 1 :: List.replicate 31 0 else shaL (shaL (sgL g L b k p m u e inp ty code))
theorem bytL_getD (x : List Nat) : bytL (fun j => x.getD j 0) 0 x.length = x := by
  apply List.ext_getElem
  · rw [bytL_len]
  · intro i h1 h2
    rw [bytL_len] at h1
    simp [bytL, List.getD, h2]
theorem bfS.row {S : ks_S} {b a N : Nat} {m : List Nat} (h : bfS S b a N (some m)) : ∃ gI, kO gI ∧ S.2.2 a = some (kB N gI) ∧ m.length ≤ N ∧ bytL gI 0 m.length = m := by
  obtain ⟨len, g, c1, c2, c3, c4, c5, c6⟩ := h
  refine ⟨g, c1, c3, by omega, ?_⟩
  conv => rhs; rw [← bytL_getD m]
  exact bytL_congr (fun j hj => by rw [Nat.zero_add]; exact c6 j (by omega))
theorem c_ws_no {l : Launch} {G : ks_G} {d : Nat} {S : ks_S} {y N L b k p m u e inp ty : Nat} {g : Nat → Nat} {code : List Nat} {o : Option (List Nat)} (hV : tv_ok S y g L b k p m u e) (hy : S.2.2 y = some (kB N g)) (hg : kO g) (hL : L ≤ N) (hN : N < 2 ^ 18) (hyn : y ∉ ([40, 39] : List Nat)) (hi : inp < k) (hty : ty < 256) (hC : bfS S 37 38 1600 (some code)) (hB : bfS S 39 40 8000 o) (h3 : ty % 32 = 3 ∧ m ≤ inp) : ks_P l G yX10_writeSigned mX10_writeSigned (d + 2) [.ref 20, .ref 39, .int (nI inp), .int (nI ty), .ref 37] S (fun z S' => z = some (.int (ks_bo false)) ∧ S' = S) := by
  have bd := tx_bd hV.2.1
  refine ks_of (by decide) rfl rfl (Nat.le_of_ble_eq_true rfl) ?_
  show ks_X l G mX10_writeSigned (d + 2) 0 [(0, .ref 20), (1, .ref 39), (2, .int (nI inp)), (3, .int (nI ty)), (4, .ref 37)] [] S _
  refine ks_iload_n dX10_writeSigned_0 rfl rfl ?_
  refine ks_bipush (x := nI 31) dX10_writeSigned_1 (by decide) rfl ?_
  refine ks_andN (k := 5) (by omega) (by decide) dX10_writeSigned_3 rfl ?_
  refine ks_istore dX10_writeSigned_4 (by decide) rfl ?_
  refine ks_sub [(5, _), (0, _), (1, _), (2, _), (3, _), (4, _)] rfl ?_
  refine ks_iload dX10_writeSigned_6 rfl rfl ?_
  refine ks_iconst (x := nI 3) dX10_writeSigned_8 (by decide) rfl ?_
  refine ks_icmp_neN (tgt := 22) (by omega) (by decide) dX10_writeSigned_9 (by decide) rfl (fun h1 => ?_) (fun h1 => ?_)
  · omega
  · refine ks_iload_n dX10_writeSigned_12 rfl rfl ?_
    refine ks_aload_n dX10_writeSigned_13 rfl rfl ?_
    refine ks_getf (T := TX10) (kf := 2) kx_559 rfl in_X10 cl_X10 (by decide) hV.1 rfl dX10_writeSigned_14 rfl ?_
    refine ks_icmp_ltN (tgt := 22) (by omega) (by omega) dX10_writeSigned_17 (by decide) rfl (fun h2 => ?_) (fun h2 => ?_)
    · omega
    · refine ks_iconst (x := nI 0) dX10_writeSigned_20 (by decide) rfl ?_
      refine ks_zret rfl rfl dX10_writeSigned_21 ?_
      exact ⟨rfl, rfl⟩
theorem c_ws_yes {l : Launch} {G : ks_G} {d : Nat} {S : ks_S} {y N L b k p m u e inp ty : Nat} {g : Nat → Nat} {code : List Nat} {o : Option (List Nat)} (hV : tv_ok S y g L b k p m u e) (hy : S.2.2 y = some (kB N g)) (hg : kO g) (hL : L ≤ N) (hN : N < 2 ^ 18) (hyn : y ∉ ([40, 39] : List Nat)) (hi : inp < k) (hty : ty < 256) (hC : bfS S 37 38 1600 (some code)) (hB : bfS S 39 40 8000 o) (hf : (sgL g L b k p m u e inp ty code).length ≤ 8000) (h3 : ¬ (ty % 32 = 3 ∧ m ≤ inp)) : ks_P l G yX10_writeSigned mX10_writeSigned (d + 2) [.ref 20, .ref 39, .int (nI inp), .int (nI ty), .ref 37] S (fun z S' => z = some (.int (ks_bo true)) ∧ ks_up S S' [40, 39] ∧ bfS S' 39 40 8000 (some (sgL g L b k p m u e inp ty code))) := by
  have h := c_writeSigned (l := l) (G := G) (d := d) hV hy hg hL hN hyn hi hty hC hB hf
  simp only [if_neg h3] at h
  exact h
set_option maxRecDepth 100000 in
set_option maxHeartbeats 2000000 in
theorem c_mc_nameSigned {l : Launch} {G : ks_G} {d : Nat} {S : ks_S} {vs : List Value} (hM : S.2.2 27 = some (.inr (10, .ref 28 :: .ref 7 :: .ref 14 :: .ref 29 :: .ref 36 :: .ref 37 :: .ref 39 :: vs))) {y N L b k p m u e inp ty : Nat} {g g28 : Nat → Nat} {code : List Nat} {ob : Option (List Nat)} (hV : tv_ok S y g L b k p m u e) (hy : S.2.2 y = some (kB N g)) (hg : kO g) (hL : L ≤ N) (hN : N < 2 ^ 18) (hyn : y ∉ ([40, 39] : List Nat)) (hi : inp < k) (hty : ty < 256) (hC : bfS S 37 38 1600 (some code)) (hB : bfS S 39 40 8000 ob) (he : e ≤ u + 4000) (hH : hsO S) (h28 : S.2.2 28 = some (kB 32 g28)) (hg28 : kO g28) (hK : ks_stOK S) : ks_P l G yX7_nameSigned mX7_nameSigned (d + 4) [.ref 27, .ref 20, .int (nI inp), .int (nI ty)] S (fun z S' => z = none ∧ ks_up S S' [8, 9, 10, 11, 28, 39, 40] ∧ hsO S' ∧ (∃ o2, bfS S' 39 40 8000 o2) ∧ ∃ h2, kO h2 ∧ S'.2.2 28 = some (kB 32 h2) ∧ bytL h2 0 32 = sgH g L b k p m u e inp ty code) := by
  have hc16 : code.length ≤ 1600 := by obtain ⟨len, g3, c1, c2, c3, c4, c5, c6⟩ := hC; omega
  refine ks_of (by decide) rfl rfl (Nat.le_of_ble_eq_true rfl) ?_
  show ks_X l G mX7_nameSigned (d + 4) 0 [(0, .ref 27), (1, .ref 20), (2, .int (nI inp)), (3, .int (nI ty))] [] S _
  refine ks_aload_n dX7_nameSigned_0 rfl rfl ?_
  refine ks_aload_n dX7_nameSigned_1 rfl rfl ?_
  refine ks_getf (T := TX7) (kf := 6) kx_649 rfl in_X7 cl_X7 (by decide) hM rfl dX7_nameSigned_2 rfl ?_
  refine ks_iload_n dX7_nameSigned_5 rfl rfl ?_
  refine ks_iload_n dX7_nameSigned_6 rfl rfl ?_
  refine ks_aload_n dX7_nameSigned_7 rfl rfl ?_
  refine ks_getf (T := TX7) (kf := 5) kx_648 rfl in_X7 cl_X7 (by decide) hM rfl dX7_nameSigned_8 rfl ?_
  by_cases h3 : ty % 32 = 3 ∧ m ≤ inp
  · refine ks_callV (n := 4) (M' := mX10_writeSigned) (c_ws_no (d := d + 1) hV hy hg hL hN hyn hi hty hC hB h3) hV.1 cl_X10 rfl kx_1347 kx_1348 kx_1349 kx_23 kx_1350 (by decide +kernel) rfl (by decide) (Nat.le_of_ble_eq_true rfl) rfl dX7_nameSigned_11 rfl (fun r1 T1 q1 => ?_)
    obtain ⟨rfl, hS1⟩ := q1
    obtain rfl := hS1.symm
    refine ks_if_eqZ (tgt := 66) dX7_nameSigned_14 (by decide) rfl (fun g1 => ?_) (fun g1 => ?_)
    · refine ks_aload_n dX7_nameSigned_66 rfl rfl ?_
      refine ks_getf (T := TX7) (kf := 0) kx_642 rfl in_X7 cl_X7 (by decide) hM rfl dX7_nameSigned_67 rfl ?_
      refine ks_iconst (x := nI 0) dX7_nameSigned_70 (by decide) rfl ?_
      refine ks_callS (n := 2) (M' := mJ7_fill_031fb) (c_fillB (d := d + 3) (x := nI 0) h28 (by decide)) kx_1357 kx_901 kx_6 kx_902 (by decide +kernel) rfl (by decide) (Nat.le_of_ble_eq_true rfl) rfl dX7_nameSigned_71 rfl (fun r2 T2 q2 => ?_)
      obtain ⟨rfl, hS2⟩ := q2
      subst T2
      refine ks_aload_n dX7_nameSigned_74 rfl rfl ?_
      refine ks_getf (T := TX7) (kf := 0) kx_642 rfl in_X7 cl_X7 (by decide) ((ks_set_ne _ _ (by decide)).trans hM) rfl dX7_nameSigned_75 rfl ?_
      refine ks_iconst (x := nI 0) dX7_nameSigned_78 (by decide) rfl ?_
      refine ks_iconst (x := nI 1) dX7_nameSigned_79 (by decide) rfl ?_
      refine ks_bastB (i := 0) (c := 1) (ks_set_same _ _ _) rfl (by decide) (by decide) (ks_by_nI _) dX7_nameSigned_80 rfl ?_
      refine ks_ret rfl dX7_nameSigned_81 ?_
      refine ⟨rfl, (ks_up_set _ _ (by decide)).trans (ks_up_set _ _ (by decide)), hs_ok.up hH ((ks_up_set _ _ (L := [28]) (by decide)).trans (ks_up_set _ _ (by decide))) (by decide), ⟨ob, hB.up ((ks_up_set _ _ (L := [28]) (by decide)).trans (ks_up_set _ _ (by decide))) (by decide) (by decide)⟩, _, ?_, (ks_set_same _ _ _), ?_⟩
      · exact kO_up (fun j => by unfold ks_fill; split; exact ks_by_lt _; exact hg28 j) (by decide)
      · unfold sgH
        rw [if_pos h3, bytL_cons, va_up_self]
        rfl
    · exact absurd g1 (by decide)
  · refine ks_callV (n := 4) (M' := mX10_writeSigned) (c_ws_yes (d := d + 1) hV hy hg hL hN hyn hi hty hC hB (sgL_le hV.2.1 hi hc16 he h3) h3) hV.1 cl_X10 rfl kx_1347 kx_1348 kx_1349 kx_23 kx_1350 (by decide +kernel) rfl (by decide) (Nat.le_of_ble_eq_true rfl) rfl dX7_nameSigned_11 rfl (fun r1 T1 q1 => ?_)
    obtain ⟨rfl, u1, b1⟩ := q1
    obtain ⟨gI, hgI, c40, hlen, hbyt⟩ := b1.row
    have m1 := u1.at hM (by decide)
    have s1 := u1.at h28 (by decide)
    have hH1 := hs_ok.up hH u1 (by decide)
    have hK1 := u1.st hK (by unfold ks_B; decide)
    refine ks_if_eqZ (tgt := 66) dX7_nameSigned_14 (by decide) rfl (fun g1 => ?_) (fun g1 => ?_)
    · exact absurd g1 (by decide)
    · refine ks_aload_n dX7_nameSigned_17 rfl rfl ?_
      refine ks_getf (T := TX7) (kf := 1) kx_644 rfl in_X7 cl_X7 (by decide) m1 rfl dX7_nameSigned_18 rfl ?_
      refine ks_aload_n dX7_nameSigned_21 rfl rfl ?_
      refine ks_getf (T := TX7) (kf := 6) kx_649 rfl in_X7 cl_X7 (by decide) m1 rfl dX7_nameSigned_22 rfl ?_
      refine ks_getf (T := TX1) (kf := 0) kx_56 rfl in_X1 cl_X1 (by decide) b1.ob rfl dX7_nameSigned_25 rfl ?_
      refine ks_iconst (x := nI 0) dX7_nameSigned_28 (by decide) rfl ?_
      refine ks_aload_n dX7_nameSigned_29 rfl rfl ?_
      refine ks_getf (T := TX7) (kf := 6) kx_649 rfl in_X7 cl_X7 (by decide) m1 rfl dX7_nameSigned_30 rfl ?_
      refine ks_getf (T := TX1) (kf := 1) kx_63 rfl in_X1 cl_X1 (by decide) b1.ob rfl dX7_nameSigned_33 rfl ?_
      refine ks_aload_n dX7_nameSigned_36 rfl rfl ?_
      refine ks_getf (T := TX7) (kf := 0) kx_642 rfl in_X7 cl_X7 (by decide) m1 rfl dX7_nameSigned_37 rfl ?_
      refine ks_iconst (x := nI 0) dX7_nameSigned_40 (by decide) rfl ?_
      refine ks_callV (n := 5) (M' := mX6_sha) (c_shaH (d := d) hH1 hs_neO c40 hgI (i := 0) (n := (sgL g L b k p m u e inp ty code).length) (by omega) (by decide) s1 hg28 (by decide) (by decide) hK1 (by decide) (by decide)) hH1.1 cl_X6 rfl kx_1356 kx_881 kx_882 kx_3 kx_883 (by decide +kernel) rfl (by decide) (Nat.le_of_ble_eq_true rfl) rfl dX7_nameSigned_41 rfl (fun r2 T2 q2 => ?_)
      obtain ⟨rfl, w2, hH2, s2⟩ := q2
      have hK2 := w2.st hK1 (by unfold ks_B; decide)
      have m2 := w2.at m1 (by decide)
      have hg2 : kO (ks_pt (sha_ (fun k => gI (0 + k)) (sgL g L b k p m u e inp ty code).length) g28 0 32) := kO_pts _ _ _ _ hg28
      refine ks_aload_n dX7_nameSigned_44 rfl rfl ?_
      refine ks_getf (T := TX7) (kf := 1) kx_644 rfl in_X7 cl_X7 (by decide) m2 rfl dX7_nameSigned_45 rfl ?_
      refine ks_aload_n dX7_nameSigned_48 rfl rfl ?_
      refine ks_getf (T := TX7) (kf := 0) kx_642 rfl in_X7 cl_X7 (by decide) m2 rfl dX7_nameSigned_49 rfl ?_
      refine ks_iconst (x := nI 0) dX7_nameSigned_52 (by decide) rfl ?_
      refine ks_bipush (x := nI 32) dX7_nameSigned_53 (by decide) rfl ?_
      refine ks_aload_n dX7_nameSigned_55 rfl rfl ?_
      refine ks_getf (T := TX7) (kf := 0) kx_642 rfl in_X7 cl_X7 (by decide) m2 rfl dX7_nameSigned_56 rfl ?_
      refine ks_iconst (x := nI 0) dX7_nameSigned_59 (by decide) rfl ?_
      refine ks_callV (n := 5) (M' := mX6_sha) (c_shaH (d := d) hH2 hs_neO s2 hg2 (i := 0) (n := 32) (by decide) (by decide) s2 hg2 (by decide) (by decide) hK2 (by decide) (by decide)) hH2.1 cl_X6 rfl kx_1356 kx_881 kx_882 kx_3 kx_883 (by decide +kernel) rfl (by decide) (Nat.le_of_ble_eq_true rfl) rfl dX7_nameSigned_60 rfl (fun r3 T3 q3 => ?_)
      obtain ⟨rfl, w3, hH3, s3⟩ := q3
      refine ks_goto (tgt := 81) dX7_nameSigned_63 (by decide) ?_
      refine ks_ret rfl dX7_nameSigned_81 ?_
      refine ⟨rfl, (u1.mono (by decide)).trans ((w2.mono (by decide)).trans (w3.mono (by decide))), hH3, ⟨_, (b1.up w2 (by decide) (by decide)).up w3 (by decide) (by decide)⟩, _, kO_pts _ _ _ _ hg2, s3, ?_⟩
      unfold sgH
      rw [if_neg h3, bytL_pt]
      conv => rhs; rw [← hbyt]
      rw [shaL_of, ← bytL_pt (sha_ (fun k => gI (0 + k)) (sgL g L b k p m u e inp ty code).length) g28 32, shaL_of]
