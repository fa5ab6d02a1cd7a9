/-! STACK (29; arena 30, at 31, count 32, otherAt 33, otherCount 34, digits 35) -/
def stX (S : ks_S) (n u o : Nat) (ar dt fa fc oa oc : Nat → Nat) : Prop := S.2.2 29 = some (.inr (11, [.ref 30, .ref 31, .ref 32, .int (nI n), .int (nI u), .int (nI o), .ref 33, .ref 34, .ref 35])) ∧ S.2.2 30 = some (kB 24096 ar) ∧ S.2.2 31 = some (kN 1004 fa) ∧ S.2.2 32 = some (kN 1004 fc) ∧ S.2.2 33 = some (kN 1004 oa) ∧ S.2.2 34 = some (kN 1004 oc) ∧ S.2.2 35 = some (kB 8 dt) ∧ kO ar ∧ kO dt ∧ n ≤ 1004 ∧ u ≤ 24096 ∧ o ≤ 1004 ∧ (∀ i, i < n → fa i + fc i ≤ u) ∧ (∀ i, i < o → oa i + oc i ≤ u)
/-- the elements, the top one first -/
def stE (ar fa fc : Nat → Nat) : Nat → List (List Nat)
  | 0 => []
  | n + 1 => bytL ar (fa n) (fc n) :: stE ar fa fc n
def st_ok (S : ks_S) (xs ys : List (List Nat)) (u : Nat) : Prop := ∃ n o ar dt fa fc oa oc, stX S n u o ar dt fa fc oa oc ∧ xs = stE ar fa fc n ∧ ys = stE ar oa oc o
theorem stE_len (ar fa fc : Nat → Nat) : ∀ n, (stE ar fa fc n).length = n
  | 0 => rfl
  | n + 1 => by rw [stE, List.length_cons, stE_len]
theorem stE_at (ar fa fc : Nat → Nat) : ∀ (n k : Nat), k < n → (stE ar fa fc n)[k]? = some (bytL ar (fa (n - 1 - k)) (fc (n - 1 - k)))
  | 0, k, h => absurd h (Nat.not_lt_zero k)
  | n + 1, 0, h => by simp [stE]
  | n + 1, k + 1, h => by
    rw [stE, List.getElem?_cons_succ, stE_at ar fa fc n k (by omega), show n + 1 - 1 - (k + 1) = n - 1 - k by omega]
theorem stE_congr {ar ar2 fa fa2 fc fc2 : Nat → Nat} : ∀ {n : Nat}, (∀ i, i < n → fa i = fa2 i ∧ fc i = fc2 i ∧ ∀ j, j < fc i → ar (fa i + j) = ar2 (fa i + j)) → stE ar fa fc n = stE ar2 fa2 fc2 n
  | 0, _ => rfl
  | n + 1, h => by
    obtain ⟨h1, h2, h3⟩ := h n (Nat.lt_succ_self n)
    rw [stE, stE, stE_congr (fun i hi => h i (Nat.lt_succ_of_lt hi)), ← h1, ← h2, bytL_congr (g := ar2) (i2 := fa n) h3]
theorem stE_drop (ar fa fc : Nat → Nat) : ∀ (k n : Nat), k ≤ n → (stE ar fa fc n).drop k = stE ar fa fc (n - k)
  | 0, n, _ => rfl
  | k + 1, 0, h => absurd h (by omega)
  | k + 1, n + 1, h => by rw [stE, List.drop_succ_cons, stE_drop ar fa fc k n (by omega), show n + 1 - (k + 1) = n - k by omega]
theorem stX.up {S S1 : ks_S} {n u o : Nat} {ar dt fa fc oa oc : Nat → Nat} {L : List Nat} (h : stX S n u o ar dt fa fc oa oc) (hu : ks_up S S1 L) (hn : ∀ x ∈ L, x < 29 ∨ 35 < x) : stX S1 n u o ar dt fa fc oa oc := by
  have hh : ∀ j, 29 ≤ j → j ≤ 35 → j ∉ L := fun j h1 h2 hm => by have := hn j hm; omega
  obtain ⟨a1, a2, a3, a4, a5, a6, a7, a8⟩ := h
  exact ⟨hu.at a1 (hh 29 (by decide) (by decide)), hu.at a2 (hh 30 (by decide) (by decide)), hu.at a3 (hh 31 (by decide) (by decide)), hu.at a4 (hh 32 (by decide) (by decide)), hu.at a5 (hh 33 (by decide) (by decide)), hu.at a6 (hh 34 (by decide) (by decide)), hu.at a7 (hh 35 (by decide) (by decide)), a8⟩
theorem st_ok.up {S S1 : ks_S} {xs ys : List (List Nat)} {u : Nat} {L : List Nat} (h : st_ok S xs ys u) (hu : ks_up S S1 L) (hn : ∀ x ∈ L, x < 29 ∨ 35 < x) : st_ok S1 xs ys u := by
  obtain ⟨n, o, ar, dt, fa, fc, oa, oc, a, b⟩ := h
  exact ⟨n, o, ar, dt, fa, fc, oa, oc, a.up hu hn, b⟩
/-- what a call of the stack leaves: all other cells, and the arena below u -/
def stU (S S1 : ks_S) (u : Nat) : Prop := ks_up S S1 [29, 30, 31, 32, 33, 34, 35] ∧ ∀ h, S.2.2 30 = some (kB 24096 h) → kO h → ∃ h2, S1.2.2 30 = some (kB 24096 h2) ∧ kO h2 ∧ ∀ j, j < u → h2 j = h j
theorem stU.of {S S1 : ks_S} {u : Nat} (h : ks_up S S1 [29, 31, 32, 33, 34, 35]) : stU S S1 u :=
  ⟨h.mono (fun x hx => by simp only [List.mem_cons, List.not_mem_nil, or_false] at hx ⊢; omega), fun f hf ho => ⟨f, h.at hf (by decide), ho, fun _ _ => rfl⟩⟩
theorem stU.rf (S : ks_S) (u : Nat) : stU S S u := ⟨ks_up.rf _ _, fun f hf ho => ⟨f, hf, ho, fun _ _ => rfl⟩⟩
theorem stU.trans {S S1 S2 : ks_S} {u v : Nat} (h : stU S S1 u) (h2 : stU S1 S2 v) (hv : u ≤ v) : stU S S2 u := by
  refine ⟨h.1.trans h2.1, fun f hf ho => ?_⟩
  obtain ⟨f1, a1, a2, a3⟩ := h.2 f hf ho
  obtain ⟨f2, b1, b2, b3⟩ := h2.2 f1 a1 a2
  exact ⟨f2, b1, b2, fun j hj => (b3 j (by omega)).trans (a3 j hj)⟩
theorem kb_cpyE {f h ar : Nat → Nat} {s u c : Nat} (e : kb h = kb ar) : kb (va_cpy f h s u c) = kb (va_cpy f ar s u c) := by
  funext j
  have e2 := congrFun e j
  unfold kb va_cpy at *
  split
  · rfl
  · exact e2
theorem kN_cpy (f g : Nat → Nat) (sp dp n : Nat) : va_cpy (fun j => nI (f j)) (fun j => nI (g j)) sp dp n = fun j => nI (va_cpy f g sp dp n j) := by
  funext j
  unfold va_cpy
  split <;> rfl
set_option maxRecDepth 100000 in
set_option maxHeartbeats 2000000 in
theorem c_st_clear {l : Launch} {G : ks_G} {d : Nat} {S : ks_S} {xs ys : List (List Nat)} {u : Nat} (hO : st_ok S xs ys u) : ks_P l G yX8_clear mX8_clear d [.ref 29] S (fun z S' => z = none ∧ stU S S' u ∧ st_ok S' ([]) ([]) 0) := by
  obtain ⟨n, o, ar, dt, fa, fc, oa, oc, hX, hx, hy⟩ := hO
  have b1 := hX.2.2.2.2.2.2.2.2.2.1
  have b2 := hX.2.2.2.2.2.2.2.2.2.2.1
  have b3 := hX.2.2.2.2.2.2.2.2.2.2.2.1
  have lx : xs.length = n := by rw [hx, stE_len]
  have ly : ys.length = o := by rw [hy, stE_len]
  refine ks_of (by decide) rfl rfl (Nat.le_of_ble_eq_true rfl) ?_
  show ks_X l G mX8_clear d 0 [(0, .ref 29)] [] S _
  refine ks_aload_n dX8_clear_0 rfl rfl ?_
  refine ks_iconst (x := nI 0) dX8_clear_1 (by decide) rfl ?_
  refine ks_putf (T := TX8) (kf := 3) kx_614 rfl in_X8 tyX8_ok nmX8 cl_X8 (by decide) hX.1 (Nat.le_of_ble_eq_true rfl) rfl rfl rfl rfl dX8_clear_2 rfl ?_
  refine ks_aload_n dX8_clear_5 rfl rfl ?_
  refine ks_iconst (x := nI 0) dX8_clear_6 (by decide) rfl ?_
  refine ks_putf (T := TX8) (kf := 5) kx_617 rfl in_X8 tyX8_ok nmX8 cl_X8 (by decide) (ks_set_same _ _ _) (Nat.le_of_ble_eq_true rfl) rfl rfl rfl rfl dX8_clear_7 rfl ?_
  refine ks_aload_n dX8_clear_10 rfl rfl ?_
  refine ks_iconst (x := nI 0) dX8_clear_11 (by decide) rfl ?_
  refine ks_putf (T := TX8) (kf := 4) kx_616 rfl in_X8 tyX8_ok nmX8 cl_X8 (by decide) (ks_set_same _ _ _) (Nat.le_of_ble_eq_true rfl) rfl rfl rfl rfl dX8_clear_12 rfl ?_
  refine ks_ret rfl dX8_clear_15 ?_
  exact ⟨rfl, stU.of (((ks_up_set _ _ (by decide)).trans (ks_up_set _ _ (by decide))).trans (ks_up_set _ _ (by decide))), 0, 0, ar, dt, fa, fc, oa, oc, ⟨(ks_set_same _ _ _), ((ks_set_ne _ _ (by decide)).trans ((ks_set_ne _ _ (by decide)).trans ((ks_set_ne _ _ (by decide)).trans hX.2.1))), ((ks_set_ne _ _ (by decide)).trans ((ks_set_ne _ _ (by decide)).trans ((ks_set_ne _ _ (by decide)).trans hX.2.2.1))), ((ks_set_ne _ _ (by decide)).trans ((ks_set_ne _ _ (by decide)).trans ((ks_set_ne _ _ (by decide)).trans hX.2.2.2.1))), ((ks_set_ne _ _ (by decide)).trans ((ks_set_ne _ _ (by decide)).trans ((ks_set_ne _ _ (by decide)).trans hX.2.2.2.2.1))), ((ks_set_ne _ _ (by decide)).trans ((ks_set_ne _ _ (by decide)).trans ((ks_set_ne _ _ (by decide)).trans hX.2.2.2.2.2.1))), ((ks_set_ne _ _ (by decide)).trans ((ks_set_ne _ _ (by decide)).trans ((ks_set_ne _ _ (by decide)).trans hX.2.2.2.2.2.2.1))), hX.2.2.2.2.2.2.2.1, hX.2.2.2.2.2.2.2.2.1, by decide, by decide, by decide, fun i hi => absurd hi (Nat.not_lt_zero i), fun i hi => absurd hi (Nat.not_lt_zero i)⟩, rfl, rfl⟩
set_option maxRecDepth 100000 in
set_option maxHeartbeats 2000000 in
theorem c_st_clearOther {l : Launch} {G : ks_G} {d : Nat} {S : ks_S} {xs ys : List (List Nat)} {u : Nat} (hO : st_ok S xs ys u) : ks_P l G yX8_clearOther mX8_clearOther d [.ref 29] S (fun z S' => z = none ∧ stU S S' u ∧ st_ok S' xs ([]) u) := by
  obtain ⟨n, o, ar, dt, fa, fc, oa, oc, hX, hx, hy⟩ := hO
  have b1 := hX.2.2.2.2.2.2.2.2.2.1
  have b2 := hX.2.2.2.2.2.2.2.2.2.2.1
  have b3 := hX.2.2.2.2.2.2.2.2.2.2.2.1
  have lx : xs.length = n := by rw [hx, stE_len]
  have ly : ys.length = o := by rw [hy, stE_len]
  refine ks_of (by decide) rfl rfl (Nat.le_of_ble_eq_true rfl) ?_
  show ks_X l G mX8_clearOther d 0 [(0, .ref 29)] [] S _
  refine ks_aload_n dX8_clearOther_0 rfl rfl ?_
  refine ks_iconst (x := nI 0) dX8_clearOther_1 (by decide) rfl ?_
  refine ks_putf (T := TX8) (kf := 5) kx_617 rfl in_X8 tyX8_ok nmX8 cl_X8 (by decide) hX.1 (Nat.le_of_ble_eq_true rfl) rfl rfl rfl rfl dX8_clearOther_2 rfl ?_
  refine ks_ret rfl dX8_clearOther_5 ?_
  exact ⟨rfl, stU.of (ks_up_set _ _ (by decide)), n, 0, ar, dt, fa, fc, oa, oc, ⟨(ks_set_same _ _ _), ((ks_set_ne _ _ (by decide)).trans hX.2.1), ((ks_set_ne _ _ (by decide)).trans hX.2.2.1), ((ks_set_ne _ _ (by decide)).trans hX.2.2.2.1), ((ks_set_ne _ _ (by decide)).trans hX.2.2.2.2.1), ((ks_set_ne _ _ (by decide)).trans hX.2.2.2.2.2.1), ((ks_set_ne _ _ (by decide)).trans hX.2.2.2.2.2.2.1), hX.2.2.2.2.2.2.2.1, hX.2.2.2.2.2.2.2.2.1, b1, b2, by decide, hX.2.2.2.2.2.2.2.2.2.2.2.2.1, fun i hi => absurd hi (Nat.not_lt_zero i)⟩, hx, rfl⟩
set_option maxRecDepth 100000 in
set_option maxHeartbeats 2000000 in
theorem c_st_isTooHigh {l : Launch} {G : ks_G} {d : Nat} {S : ks_S} {xs ys : List (List Nat)} {u : Nat} (hO : st_ok S xs ys u) : ks_P l G yX8_isTooHigh mX8_isTooHigh d [.ref 29] S (fun z S' => z = some (.int (ks_bo (decide (1000 < xs.length + ys.length)))) ∧ S' = S) := by
  obtain ⟨n, o, ar, dt, fa, fc, oa, oc, hX, hx, hy⟩ := hO
  have b1 := hX.2.2.2.2.2.2.2.2.2.1
  have b2 := hX.2.2.2.2.2.2.2.2.2.2.1
  have b3 := hX.2.2.2.2.2.2.2.2.2.2.2.1
  have lx : xs.length = n := by rw [hx, stE_len]
  have ly : ys.length = o := by rw [hy, stE_len]
  rw [lx, ly]
  refine ks_of (by decide) rfl rfl (Nat.le_of_ble_eq_true rfl) ?_
  show ks_X l G mX8_isTooHigh d 0 [(0, .ref 29)] [] S _
  refine ks_aload_n dX8_isTooHigh_0 rfl rfl ?_
  refine ks_getf (T := TX8) (kf := 3) kx_614 rfl in_X8 cl_X8 (by decide) hX.1 rfl dX8_isTooHigh_1 rfl ?_
  refine ks_aload_n dX8_isTooHigh_4 rfl rfl ?_
  refine ks_getf (T := TX8) (kf := 5) kx_617 rfl in_X8 cl_X8 (by decide) hX.1 rfl dX8_isTooHigh_5 rfl ?_
  refine ks_addN dX8_isTooHigh_8 rfl ?_
  refine ks_sipush (x := nI 1000) dX8_isTooHigh_9 (by decide) rfl ?_
  refine ks_icmp_leN (tgt := 19) (by omega) (by decide) dX8_isTooHigh_12 (by decide) rfl (fun hc12 => ?_) (fun hc12 => ?_)
  · refine ks_iconst (x := nI 0) dX8_isTooHigh_19 (by decide) rfl ?_
    refine ks_zret rfl rfl dX8_isTooHigh_20 ?_
    refine ⟨?_, rfl⟩
    rw [decide_eq_false (by omega)]
    rfl
  · refine ks_iconst (x := nI 1) dX8_isTooHigh_15 (by decide) rfl ?_
    refine ks_goto (tgt := 20) dX8_isTooHigh_16 (by decide) ?_
    refine ks_zret rfl rfl dX8_isTooHigh_20 ?_
    refine ⟨?_, rfl⟩
    rw [decide_eq_true (by omega)]
    rfl
set_option maxRecDepth 100000 in
set_option maxHeartbeats 2000000 in
theorem c_st_add {l : Launch} {G : ks_G} {d : Nat} {S : ks_S} {xs ys : List (List Nat)} {u : Nat} (hO : st_ok S xs ys u) {y Ny s c : Nat} {gy : Nat → Nat} (hy0 : S.2.2 y = some (kB Ny gy)) (hgy : kO gy) (hs : s + c ≤ Ny) (hNy : Ny < 2 ^ 20) (hl : xs.length < 1004) (huc : u + c ≤ 24096) (hyn : y ≠ 29) : ks_P l G yX8_add mX8_add (d + 1) [.ref 29, .ref y, .int (nI s), .int (nI c)] S (fun z S' => z = some (.int (ks_bo true)) ∧ stU S S' u ∧ st_ok S' (bytL gy s c :: xs) ys (u + c)) := by
  obtain ⟨n, o, ar, dt, fa, fc, oa, oc, hX, hx, hy⟩ := hO
  have b1 := hX.2.2.2.2.2.2.2.2.2.1
  have b2 := hX.2.2.2.2.2.2.2.2.2.2.1
  have b3 := hX.2.2.2.2.2.2.2.2.2.2.2.1
  have lx : xs.length = n := by rw [hx, stE_len]
  have ly : ys.length = o := by rw [hy, stE_len]
  rw [lx] at hl
  refine ks_of (by decide) rfl rfl (Nat.le_of_ble_eq_true rfl) ?_
  show ks_X l G mX8_add (d + 1) 0 [(0, .ref 29), (1, .ref y), (2, .int (nI s)), (3, .int (nI c))] [] S _
  refine ks_aload_n dX8_add_0 rfl rfl ?_
  refine ks_getf (T := TX8) (kf := 3) kx_614 rfl in_X8 cl_X8 (by decide) hX.1 rfl dX8_add_1 rfl ?_
  refine ks_sipush (x := nI 1004) dX8_add_4 (by decide) rfl ?_
  refine ks_icmp_geN (tgt := 22) (by omega) (by decide) dX8_add_7 (by decide) rfl (fun hc7 => ?_) (fun hc7 => ?_)
  · refine ks_iconst (x := nI 0) dX8_add_22 (by decide) rfl ?_
    refine ks_zret rfl rfl dX8_add_23 ?_
    omega
  · refine ks_iload_n dX8_add_10 rfl rfl ?_
    refine ks_sipush (x := nI 24096) dX8_add_11 (by decide) rfl ?_
    refine ks_aload_n dX8_add_14 rfl rfl ?_
    refine ks_getf (T := TX8) (kf := 4) kx_616 rfl in_X8 cl_X8 (by decide) hX.1 rfl dX8_add_15 rfl ?_
    refine ks_subN (by omega) dX8_add_18 rfl ?_
    refine ks_icmp_leN (tgt := 24) (by omega) (by omega) dX8_add_19 (by decide) rfl (fun hc19 => ?_) (fun hc19 => ?_)
    · refine ks_aload_n dX8_add_24 rfl rfl ?_
      refine ks_iload_n dX8_add_25 rfl rfl ?_
      refine ks_aload_n dX8_add_26 rfl rfl ?_
      refine ks_getf (T := TX8) (kf := 0) kx_608 rfl in_X8 cl_X8 (by decide) hX.1 rfl dX8_add_27 rfl ?_
      refine ks_aload_n dX8_add_30 rfl rfl ?_
      refine ks_getf (T := TX8) (kf := 4) kx_616 rfl in_X8 cl_X8 (by decide) hX.1 rfl dX8_add_31 rfl ?_
      refine ks_iload_n dX8_add_34 rfl rfl ?_
      refine ks_copyB (n := c) (dp := u) (sp := s) hy0 hX.2.1 rfl rfl rfl (by omega) (by omega) (by omega) (by decide) kx_1583 kx_275 kx_274 kx_17 (by omega) (Nat.le_of_ble_eq_true rfl) dX8_add_35 rfl ?_
      refine ks_aload_n dX8_add_38 rfl rfl ?_
      refine ks_getf (T := TX8) (kf := 1) kx_610 rfl in_X8 cl_X8 (by decide) ((ks_set_ne _ _ (by decide)).trans hX.1) rfl dX8_add_39 rfl ?_
      refine ks_aload_n dX8_add_42 rfl rfl ?_
      refine ks_getf (T := TX8) (kf := 3) kx_614 rfl in_X8 cl_X8 (by decide) ((ks_set_ne _ _ (by decide)).trans hX.1) rfl dX8_add_43 rfl ?_
      refine ks_aload_n dX8_add_46 rfl rfl ?_
      refine ks_getf (T := TX8) (kf := 4) kx_616 rfl in_X8 cl_X8 (by decide) ((ks_set_ne _ _ (by decide)).trans hX.1) rfl dX8_add_47 rfl ?_
      refine ks_iastNN (i := n) (v := u) (by decide) ((ks_set_ne _ _ (by decide)).trans hX.2.2.1) (by omega) (by decide) dX8_add_50 rfl ?_
      refine ks_aload_n dX8_add_51 rfl rfl ?_
      refine ks_getf (T := TX8) (kf := 2) kx_612 rfl in_X8 cl_X8 (by decide) ((ks_set_ne _ _ (by decide)).trans ((ks_set_ne _ _ (by decide)).trans hX.1)) rfl dX8_add_52 rfl ?_
      refine ks_aload_n dX8_add_55 rfl rfl ?_
      refine ks_getf (T := TX8) (kf := 3) kx_614 rfl in_X8 cl_X8 (by decide) ((ks_set_ne _ _ (by decide)).trans ((ks_set_ne _ _ (by decide)).trans hX.1)) rfl dX8_add_56 rfl ?_
      refine ks_iload_n dX8_add_59 rfl rfl ?_
      refine ks_iastNN (i := n) (v := c) (by decide) ((ks_set_ne _ _ (by decide)).trans ((ks_set_ne _ _ (by decide)).trans hX.2.2.2.1)) (by omega) (by decide) dX8_add_60 rfl ?_
      refine ks_aload_n dX8_add_61 rfl rfl ?_
      refine ks_dup dX8_add_62 rfl rfl ?_
      refine ks_getf (T := TX8) (kf := 4) kx_616 rfl in_X8 cl_X8 (by decide) ((ks_set_ne _ _ (by decide)).trans ((ks_set_ne _ _ (by decide)).trans ((ks_set_ne _ _ (by decide)).trans hX.1))) rfl dX8_add_63 rfl ?_
      refine ks_iload_n dX8_add_66 rfl rfl ?_
      refine ks_addN dX8_add_67 rfl ?_
      refine ks_putf (T := TX8) (kf := 4) kx_616 rfl in_X8 tyX8_ok nmX8 cl_X8 (by decide) ((ks_set_ne _ _ (by decide)).trans ((ks_set_ne _ _ (by decide)).trans ((ks_set_ne _ _ (by decide)).trans hX.1))) (Nat.le_of_ble_eq_true rfl) rfl rfl rfl rfl dX8_add_68 rfl ?_
      refine ks_aload_n dX8_add_71 rfl rfl ?_
      refine ks_dup dX8_add_72 rfl rfl ?_
      refine ks_getf (T := TX8) (kf := 3) kx_614 rfl in_X8 cl_X8 (by decide) (ks_set_same _ _ _) rfl dX8_add_73 rfl ?_
      refine ks_iconst (x := nI 1) dX8_add_76 (by decide) rfl ?_
      refine ks_addN dX8_add_77 rfl ?_
      refine ks_putf (T := TX8) (kf := 3) kx_614 rfl in_X8 tyX8_ok nmX8 cl_X8 (by decide) (ks_set_same _ _ _) (Nat.le_of_ble_eq_true rfl) rfl rfl rfl rfl dX8_add_78 rfl ?_
      refine ks_iconst (x := nI 1) dX8_add_81 (by decide) rfl ?_
      refine ks_zret rfl rfl dX8_add_82 ?_
      refine ⟨rfl, ⟨((((ks_up_set _ _ (by decide)).trans (ks_up_set _ _ (by decide))).trans (ks_up_set _ _ (by decide))).trans (ks_up_set _ _ (by decide))).trans (ks_up_set _ _ (by decide)), fun h hh ho => ⟨va_cpy gy h s u c, (((ks_set_ne _ _ (by decide)).trans ((ks_set_ne _ _ (by decide)).trans ((ks_set_ne _ _ (by decide)).trans ((ks_set_ne _ _ (by decide)).trans (ks_set_same _ _ _)))))).trans (by
        have e : kb h = kb ar := by
          have := hh.symm.trans hX.2.1
          injection this with e1
          injection e1 with e2
          injection e2 with e3 e4
          injection e4 with e5 e6
          injection e6
        show _ = some ((.inl (0, 24096, .inl (kb (va_cpy gy h s u c))) : ks_E))
        rw [kb_cpyE e]), kO_cpy hgy ho _ _ _, fun j hj => pk_cpy_out (by omega)⟩⟩, n + 1, o, (va_cpy gy ar s u c), dt, va_up fa n u, va_up fc n c, oa, oc, ⟨(ks_set_same _ _ _), ((ks_set_ne _ _ (by decide)).trans ((ks_set_ne _ _ (by decide)).trans ((ks_set_ne _ _ (by decide)).trans ((ks_set_ne _ _ (by decide)).trans (ks_set_same _ _ _))))), ((ks_set_ne _ _ (by decide)).trans ((ks_set_ne _ _ (by decide)).trans ((ks_set_ne _ _ (by decide)).trans (ks_set_same _ _ _)))), ((ks_set_ne _ _ (by decide)).trans ((ks_set_ne _ _ (by decide)).trans (ks_set_same _ _ _))), ((ks_set_ne _ _ (by decide)).trans ((ks_set_ne _ _ (by decide)).trans ((ks_set_ne _ _ (by decide)).trans ((ks_set_ne _ _ (by decide)).trans ((ks_set_ne _ _ (by decide)).trans hX.2.2.2.2.1))))), ((ks_set_ne _ _ (by decide)).trans ((ks_set_ne _ _ (by decide)).trans ((ks_set_ne _ _ (by decide)).trans ((ks_set_ne _ _ (by decide)).trans ((ks_set_ne _ _ (by decide)).trans hX.2.2.2.2.2.1))))), ((ks_set_ne _ _ (by decide)).trans ((ks_set_ne _ _ (by decide)).trans ((ks_set_ne _ _ (by decide)).trans ((ks_set_ne _ _ (by decide)).trans ((ks_set_ne _ _ (by decide)).trans hX.2.2.2.2.2.2.1))))), kO_cpy hgy hX.2.2.2.2.2.2.2.1 _ _ _, hX.2.2.2.2.2.2.2.2.1, by omega, by omega, b3, ?_, ?_⟩, ?_, ?_⟩
      · intro i hi
        by_cases e : i = n
        · subst e; rw [va_up_self, va_up_self]; omega
        · rw [va_up_ne _ _ e, va_up_ne _ _ e]; have := hX.2.2.2.2.2.2.2.2.2.2.2.2.1 i (by omega); omega
      · intro i hi
        have := hX.2.2.2.2.2.2.2.2.2.2.2.2.2 i hi; omega
      · rw [stE, va_up_self, va_up_self, hx]
        congr 1
        · exact (bytL_congr (fun j hj => by rw [pk_cpy_in (by omega) (by omega), Nat.add_sub_cancel_left])).symm
        · refine stE_congr (fun i hi => ?_)
          have := hX.2.2.2.2.2.2.2.2.2.2.2.2.1 i hi
          rw [va_up_ne _ _ (by omega), va_up_ne _ _ (by omega)]
          exact ⟨rfl, rfl, fun j hj => (pk_cpy_out (by omega)).symm⟩
      · rw [hy]
        refine stE_congr (fun i hi => ?_)
        have := hX.2.2.2.2.2.2.2.2.2.2.2.2.2 i hi
        exact ⟨rfl, rfl, fun j hj => (pk_cpy_out (by omega)).symm⟩
    · refine ks_iconst (x := nI 0) dX8_add_22 (by decide) rfl ?_
      refine ks_zret rfl rfl dX8_add_23 ?_
      omega
set_option maxRecDepth 100000 in
set_option maxHeartbeats 2000000 in
theorem c_st_drop {l : Launch} {G : ks_G} {d : Nat} {S : ks_S} {xs ys : List (List Nat)} {u : Nat} (hO : st_ok S xs ys u) {c : Nat} (hc : c ≤ xs.length) : ks_P l G yX8_drop mX8_drop d [.ref 29, .int (nI c)] S (fun z S' => z = some (.int (ks_bo true)) ∧ stU S S' u ∧ st_ok S' (xs.drop c) ys u) := by
  obtain ⟨n, o, ar, dt, fa, fc, oa, oc, hX, hx, hy⟩ := hO
  have b1 := hX.2.2.2.2.2.2.2.2.2.1
  have b2 := hX.2.2.2.2.2.2.2.2.2.2.1
  have b3 := hX.2.2.2.2.2.2.2.2.2.2.2.1
  have lx : xs.length = n := by rw [hx, stE_len]
  have ly : ys.length = o := by rw [hy, stE_len]
  rw [lx] at hc
  refine ks_of (by decide) rfl rfl (Nat.le_of_ble_eq_true rfl) ?_
  show ks_X l G mX8_drop d 0 [(0, .ref 29), (1, .int (nI c))] [] S _
  refine ks_aload_n dX8_drop_0 rfl rfl ?_
  refine ks_dup dX8_drop_1 rfl rfl ?_
  refine ks_getf (T := TX8) (kf := 3) kx_614 rfl in_X8 cl_X8 (by decide) hX.1 rfl dX8_drop_2 rfl ?_
  refine ks_iload_n dX8_drop_5 rfl rfl ?_
  refine ks_subN (by omega) dX8_drop_6 rfl ?_
  refine ks_putf (T := TX8) (kf := 3) kx_614 rfl in_X8 tyX8_ok nmX8 cl_X8 (by decide) hX.1 (Nat.le_of_ble_eq_true rfl) rfl rfl rfl rfl dX8_drop_7 rfl ?_
  refine ks_iconst (x := nI 1) dX8_drop_10 (by decide) rfl ?_
  refine ks_zret rfl rfl dX8_drop_11 ?_
  refine ⟨rfl, stU.of (ks_up_set _ _ (by decide)), n - c, o, ar, dt, fa, fc, oa, oc, ⟨(ks_set_same _ _ _), ((ks_set_ne _ _ (by decide)).trans hX.2.1), ((ks_set_ne _ _ (by decide)).trans hX.2.2.1), ((ks_set_ne _ _ (by decide)).trans hX.2.2.2.1), ((ks_set_ne _ _ (by decide)).trans hX.2.2.2.2.1), ((ks_set_ne _ _ (by decide)).trans hX.2.2.2.2.2.1), ((ks_set_ne _ _ (by decide)).trans hX.2.2.2.2.2.2.1), hX.2.2.2.2.2.2.2.1, hX.2.2.2.2.2.2.2.2.1, by omega, b2, b3, fun i hi => hX.2.2.2.2.2.2.2.2.2.2.2.2.1 i (by omega), hX.2.2.2.2.2.2.2.2.2.2.2.2.2⟩, ?_, hy⟩
  rw [hx, stE_drop _ _ _ c n hc]
set_option maxRecDepth 100000 in
set_option maxHeartbeats 2000000 in
theorem c_st_copy {l : Launch} {G : ks_G} {d : Nat} {S : ks_S} {xs ys : List (List Nat)} {u : Nat} (hO : st_ok S xs ys u) {c : Nat} {x : List Nat} (hc : xs[c]? = some x) (hl : xs.length < 1004) : ks_P l G yX8_copy mX8_copy d [.ref 29, .int (nI c)] S (fun z S' => z = some (.int (ks_bo true)) ∧ stU S S' u ∧ st_ok S' (x :: xs) ys u) := by
  obtain ⟨n, o, ar, dt, fa, fc, oa, oc, hX, hx, hy⟩ := hO
  have b1 := hX.2.2.2.2.2.2.2.2.2.1
  have b2 := hX.2.2.2.2.2.2.2.2.2.2.1
  have b3 := hX.2.2.2.2.2.2.2.2.2.2.2.1
  have lx : xs.length = n := by rw [hx, stE_len]
  have ly : ys.length = o := by rw [hy, stE_len]
  rw [lx] at hl
  have hcn : c < n := by
    apply Nat.lt_of_not_le
    intro h9
    rw [List.getElem?_eq_none (by rw [lx]; exact h9)] at hc
    cases hc
  rw [hx, stE_at ar fa fc n c hcn] at hc
  obtain rfl := Option.some.inj hc
  refine ks_of (by decide) rfl rfl (Nat.le_of_ble_eq_true rfl) ?_
  show ks_X l G mX8_copy d 0 [(0, .ref 29), (1, .int (nI c))] [] S _
  refine ks_iload_n dX8_copy_0 rfl rfl ?_
  refine ks_if_ltN (tgt := 22) (by omega) dX8_copy_1 (by decide) rfl ?_
  refine ks_iload_n dX8_copy_4 rfl rfl ?_
  refine ks_aload_n dX8_copy_5 rfl rfl ?_
  refine ks_getf (T := TX8) (kf := 3) kx_614 rfl in_X8 cl_X8 (by decide) hX.1 rfl dX8_copy_6 rfl ?_
  refine ks_icmp_geN (tgt := 22) (by omega) (by omega) dX8_copy_9 (by decide) rfl (fun hc9 => ?_) (fun hc9 => ?_)
  · refine ks_iconst (x := nI 0) dX8_copy_22 (by decide) rfl ?_
    refine ks_zret rfl rfl dX8_copy_23 ?_
    omega
  · refine ks_aload_n dX8_copy_12 rfl rfl ?_
    refine ks_getf (T := TX8) (kf := 3) kx_614 rfl in_X8 cl_X8 (by decide) hX.1 rfl dX8_copy_13 rfl ?_
    refine ks_sipush (x := nI 1004) dX8_copy_16 (by decide) rfl ?_
    refine ks_icmp_ltN (tgt := 24) (by omega) (by decide) dX8_copy_19 (by decide) rfl (fun hc19 => ?_) (fun hc19 => ?_)
    · refine ks_aload_n dX8_copy_24 rfl rfl ?_
      refine ks_getf (T := TX8) (kf := 1) kx_610 rfl in_X8 cl_X8 (by decide) hX.1 rfl dX8_copy_25 rfl ?_
      refine ks_aload_n dX8_copy_28 rfl rfl ?_
      refine ks_getf (T := TX8) (kf := 3) kx_614 rfl in_X8 cl_X8 (by decide) hX.1 rfl dX8_copy_29 rfl ?_
      refine ks_aload_n dX8_copy_32 rfl rfl ?_
      refine ks_getf (T := TX8) (kf := 1) kx_610 rfl in_X8 cl_X8 (by decide) hX.1 rfl dX8_copy_33 rfl ?_
      refine ks_aload_n dX8_copy_36 rfl rfl ?_
      refine ks_getf (T := TX8) (kf := 3) kx_614 rfl in_X8 cl_X8 (by decide) hX.1 rfl dX8_copy_37 rfl ?_
      refine ks_iconst (x := nI 1) dX8_copy_40 (by decide) rfl ?_
      refine ks_subN (by omega) dX8_copy_41 rfl ?_
      refine ks_iload_n dX8_copy_42 rfl rfl ?_
      refine ks_subN (by omega) dX8_copy_43 rfl ?_
      refine ks_ialdN (i := n - 1 - c) hX.2.2.1 rfl (by omega) (by decide) dX8_copy_44 rfl ?_
      refine ks_iastNN (i := n) (v := fa (n - 1 - c)) (by decide) hX.2.2.1 (by omega) (by decide) dX8_copy_45 rfl ?_
      refine ks_aload_n dX8_copy_46 rfl rfl ?_
      refine ks_getf (T := TX8) (kf := 2) kx_612 rfl in_X8 cl_X8 (by decide) ((ks_set_ne _ _ (by decide)).trans hX.1) rfl dX8_copy_47 rfl ?_
      refine ks_aload_n dX8_copy_50 rfl rfl ?_
      refine ks_getf (T := TX8) (kf := 3) kx_614 rfl in_X8 cl_X8 (by decide) ((ks_set_ne _ _ (by decide)).trans hX.1) rfl dX8_copy_51 rfl ?_
      refine ks_aload_n dX8_copy_54 rfl rfl ?_
      refine ks_getf (T := TX8) (kf := 2) kx_612 rfl in_X8 cl_X8 (by decide) ((ks_set_ne _ _ (by decide)).trans hX.1) rfl dX8_copy_55 rfl ?_
      refine ks_aload_n dX8_copy_58 rfl rfl ?_
      refine ks_getf (T := TX8) (kf := 3) kx_614 rfl in_X8 cl_X8 (by decide) ((ks_set_ne _ _ (by decide)).trans hX.1) rfl dX8_copy_59 rfl ?_
      refine ks_iconst (x := nI 1) dX8_copy_62 (by decide) rfl ?_
      refine ks_subN (by omega) dX8_copy_63 rfl ?_
      refine ks_iload_n dX8_copy_64 rfl rfl ?_
      refine ks_subN (by omega) dX8_copy_65 rfl ?_
      refine ks_ialdN (i := n - 1 - c) ((ks_set_ne _ _ (by decide)).trans hX.2.2.2.1) rfl (by omega) (by decide) dX8_copy_66 rfl ?_
      refine ks_iastNN (i := n) (v := fc (n - 1 - c)) (by decide) ((ks_set_ne _ _ (by decide)).trans hX.2.2.2.1) (by omega) (by decide) dX8_copy_67 rfl ?_
      refine ks_aload_n dX8_copy_68 rfl rfl ?_
      refine ks_dup dX8_copy_69 rfl rfl ?_
      refine ks_getf (T := TX8) (kf := 3) kx_614 rfl in_X8 cl_X8 (by decide) ((ks_set_ne _ _ (by decide)).trans ((ks_set_ne _ _ (by decide)).trans hX.1)) rfl dX8_copy_70 rfl ?_
      refine ks_iconst (x := nI 1) dX8_copy_73 (by decide) rfl ?_
      refine ks_addN dX8_copy_74 rfl ?_
      refine ks_putf (T := TX8) (kf := 3) kx_614 rfl in_X8 tyX8_ok nmX8 cl_X8 (by decide) ((ks_set_ne _ _ (by decide)).trans ((ks_set_ne _ _ (by decide)).trans hX.1)) (Nat.le_of_ble_eq_true rfl) rfl rfl rfl rfl dX8_copy_75 rfl ?_
      refine ks_iconst (x := nI 1) dX8_copy_78 (by decide) rfl ?_
      refine ks_zret rfl rfl dX8_copy_79 ?_
      refine ⟨rfl, stU.of (((ks_up_set _ _ (by decide)).trans (ks_up_set _ _ (by decide))).trans (ks_up_set _ _ (by decide))), n + 1, o, ar, dt, va_up fa n (fa (n - 1 - c)), va_up fc n (fc (n - 1 - c)), oa, oc, ⟨(ks_set_same _ _ _), ((ks_set_ne _ _ (by decide)).trans ((ks_set_ne _ _ (by decide)).trans ((ks_set_ne _ _ (by decide)).trans hX.2.1))), ((ks_set_ne _ _ (by decide)).trans ((ks_set_ne _ _ (by decide)).trans (ks_set_same _ _ _))), ((ks_set_ne _ _ (by decide)).trans (ks_set_same _ _ _)), ((ks_set_ne _ _ (by decide)).trans ((ks_set_ne _ _ (by decide)).trans ((ks_set_ne _ _ (by decide)).trans hX.2.2.2.2.1))), ((ks_set_ne _ _ (by decide)).trans ((ks_set_ne _ _ (by decide)).trans ((ks_set_ne _ _ (by decide)).trans hX.2.2.2.2.2.1))), ((ks_set_ne _ _ (by decide)).trans ((ks_set_ne _ _ (by decide)).trans ((ks_set_ne _ _ (by decide)).trans hX.2.2.2.2.2.2.1))), hX.2.2.2.2.2.2.2.1, hX.2.2.2.2.2.2.2.2.1, by omega, b2, b3, ?_, hX.2.2.2.2.2.2.2.2.2.2.2.2.2⟩, ?_, hy⟩
      · intro i hi
        by_cases e : i = n
        · subst e; rw [va_up_self, va_up_self]; exact hX.2.2.2.2.2.2.2.2.2.2.2.2.1 _ (by omega)
        · rw [va_up_ne _ _ e, va_up_ne _ _ e]; exact hX.2.2.2.2.2.2.2.2.2.2.2.2.1 i (by omega)
      · rw [stE, va_up_self, va_up_self, hx]
        congr 1
        refine stE_congr (fun i hi => ?_)
        rw [va_up_ne _ _ (by omega), va_up_ne _ _ (by omega)]
        exact ⟨rfl, rfl, fun j hj => rfl⟩
    · refine ks_iconst (x := nI 0) dX8_copy_22 (by decide) rfl ?_
      refine ks_zret rfl rfl dX8_copy_23 ?_
      omega
set_option maxRecDepth 100000 in
set_option maxHeartbeats 2000000 in
theorem c_st_hasNumber {l : Launch} {G : ks_G} {d : Nat} {S : ks_S} {xs ys : List (List Nat)} {u : Nat} (hO : st_ok S xs ys u) {c mo : Nat} (hc : c < 2 ^ 20) (hmo : mo < 2 ^ 20) : ks_P l G yX8_hasNumber mX8_hasNumber d [.ref 29, .int (nI c), .int (nI mo)] S (fun z S' => ∃ t, z = some (.int (ks_bo t)) ∧ S' = S ∧ (t = true ↔ ∃ x, xs[c]? = some x ∧ x.length ≤ mo)) := by
  obtain ⟨n, o, ar, dt, fa, fc, oa, oc, hX, hx, hy⟩ := hO
  have b1 := hX.2.2.2.2.2.2.2.2.2.1
  have b2 := hX.2.2.2.2.2.2.2.2.2.2.1
  have b3 := hX.2.2.2.2.2.2.2.2.2.2.2.1
  have lx : xs.length = n := by rw [hx, stE_len]
  have ly : ys.length = o := by rw [hy, stE_len]
  refine ks_of (by decide) rfl rfl (Nat.le_of_ble_eq_true rfl) ?_
  show ks_X l G mX8_hasNumber d 0 [(0, .ref 29), (1, .int (nI c)), (2, .int (nI mo))] [] S _
  refine ks_iload_n dX8_hasNumber_0 rfl rfl ?_
  refine ks_aload_n dX8_hasNumber_1 rfl rfl ?_
  refine ks_getf (T := TX8) (kf := 3) kx_614 rfl in_X8 cl_X8 (by decide) hX.1 rfl dX8_hasNumber_2 rfl ?_
  refine ks_icmp_geN (tgt := 29) (by omega) (by omega) dX8_hasNumber_5 (by decide) rfl (fun hc5 => ?_) (fun hc5 => ?_)
  · refine ks_iconst (x := nI 0) dX8_hasNumber_29 (by decide) rfl ?_
    refine ks_zret rfl rfl dX8_hasNumber_30 ?_
    refine ⟨false, rfl, rfl, (fun h => by cases h), ?_⟩
    rintro ⟨x, h1, h2⟩
    exfalso
    have hcn : c < n := by
      apply Nat.lt_of_not_le
      intro h9
      rw [List.getElem?_eq_none (by rw [lx]; exact h9)] at h1
      cases h1
    rw [hx, stE_at ar fa fc n c hcn] at h1
    obtain rfl := Option.some.inj h1
    rw [bytL_len] at h2
    omega
  · refine ks_aload_n dX8_hasNumber_8 rfl rfl ?_
    refine ks_getf (T := TX8) (kf := 2) kx_612 rfl in_X8 cl_X8 (by decide) hX.1 rfl dX8_hasNumber_9 rfl ?_
    refine ks_aload_n dX8_hasNumber_12 rfl rfl ?_
    refine ks_getf (T := TX8) (kf := 3) kx_614 rfl in_X8 cl_X8 (by decide) hX.1 rfl dX8_hasNumber_13 rfl ?_
    refine ks_iconst (x := nI 1) dX8_hasNumber_16 (by decide) rfl ?_
    refine ks_subN (by omega) dX8_hasNumber_17 rfl ?_
    refine ks_iload_n dX8_hasNumber_18 rfl rfl ?_
    refine ks_subN (by omega) dX8_hasNumber_19 rfl ?_
    refine ks_ialdN (i := n - 1 - c) hX.2.2.2.1 rfl (by omega) (by decide) dX8_hasNumber_20 rfl ?_
    refine ks_iload_n dX8_hasNumber_21 rfl rfl ?_
    have fcb := hX.2.2.2.2.2.2.2.2.2.2.2.2.1 (n - 1 - c) (by omega)
    refine ks_icmp_gtN (tgt := 29) (by omega) (by omega) dX8_hasNumber_22 (by decide) rfl (fun hc22 => ?_) (fun hc22 => ?_)
    · refine ks_iconst (x := nI 0) dX8_hasNumber_29 (by decide) rfl ?_
      refine ks_zret rfl rfl dX8_hasNumber_30 ?_
      refine ⟨false, rfl, rfl, (fun h => by cases h), ?_⟩
      rintro ⟨x, h1, h2⟩
      exfalso
      have hcn : c < n := by
        apply Nat.lt_of_not_le
        intro h9
        rw [List.getElem?_eq_none (by rw [lx]; exact h9)] at h1
        cases h1
      rw [hx, stE_at ar fa fc n c hcn] at h1
      obtain rfl := Option.some.inj h1
      rw [bytL_len] at h2
      omega
    · refine ks_iconst (x := nI 1) dX8_hasNumber_25 (by decide) rfl ?_
      refine ks_goto (tgt := 30) dX8_hasNumber_26 (by decide) ?_
      refine ks_zret rfl rfl dX8_hasNumber_30 ?_
      exact ⟨true, rfl, rfl, fun _ => ⟨_, by rw [hx]; exact stE_at ar fa fc n c (by omega), by rw [bytL_len]; omega⟩, fun _ => rfl⟩
