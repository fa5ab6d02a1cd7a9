/-! MACHINE: moves -/
def cpS (c : Nat) (xs : List (List Nat)) : List (List Nat) := xs.getD c [] :: xs
def lfS (c : Nat) (xs : List (List Nat)) : List (List Nat) := xs.getD c [] :: xs.eraseIdx c
def mnS (cp : Bool) (xs ys : List (List Nat)) : Option (List (List Nat) × List (List Nat)) :=
  if 0 < xs.length ∧ (xs.getD 0 []).length ≤ 4 then
    (if 0 ≤ numV (xs.getD 0 []) ∧ numV (xs.getD 0 []) < ((xs.drop 1).length : Int) then some ((if cp then cpS else lfS) (numV (xs.getD 0 [])).toNat (xs.drop 1), ys) else none)
  else none
theorem lfS_len {c : Nat} {xs : List (List Nat)} (h : c < xs.length) : (lfS c xs).length = xs.length := by
  unfold lfS
  rw [List.length_cons, List.length_eraseIdx_of_lt h]
  omega
theorem cpS_len (c : Nat) (xs : List (List Nat)) : (cpS c xs).length = xs.length + 1 := rfl
theorem has_iff {xs : List (List Nat)} {c mo : Nat} : (∃ x, xs[c]? = some x ∧ x.length ≤ mo) ↔ c < xs.length ∧ (xs.getD c []).length ≤ mo := by
  constructor
  · rintro ⟨x, h1, h2⟩
    have hc : c < xs.length := by
      apply Nat.lt_of_not_le
      intro h
      rw [List.getElem?_eq_none h] at h1
      cases h1
    rw [gD hc] at h1
    obtain rfl := Option.some.inj h1
    exact ⟨hc, h2⟩
  · rintro ⟨h1, h2⟩
    exact ⟨_, gD h1, h2⟩
/-- how many elements operations 107 .. 125 need -/
def ndO (op : Nat) : Nat := [1, 0, 2, 2, 3, 4, 6, 4, 1, 0, 1, 1, 2, 2, 2, 2, 3, 2, 2].getD (op - 107) 0
theorem gDd {α : Type} {l : List α} {n : Nat} (a : α) (h : l.length ≤ n) : l.getD n a = a := by
  rw [List.getD_eq_getElem?_getD, List.getElem?_eq_none h]
  rfl
def ndF (j : Nat) : Nat := ndO (107 + j)
theorem ndF_le (j : Nat) : ndF j ≤ 6 := by
  by_cases hj : j < 19
  · exact (show ∀ j, j < 19 → ndF j ≤ 6 by decide) j hj
  · show ([1, 0, 2, 2, 3, 4, 6, 4, 1, 0, 1, 1, 2, 2, 2, 2, 3, 2, 2] : List Nat).getD (107 + j - 107) 0 ≤ 6
    rw [Nat.add_sub_cancel_left, gDd _ (by show 19 ≤ j; omega)]
    decide
def mvS (op : Nat) (xs ys : List (List Nat)) : Option (List (List Nat) × List (List Nat)) :=
  if xs.length < ndO op then none
  else if op = 107 then some (xs.drop 1, xs.getD 0 [] :: ys)
  else if op = 108 then (match ys with
    | [] => none
    | y :: r => some (y :: xs, r))
  else if op = 109 then some (xs.drop 2, ys)
  else if op = 110 then some (cpS 1 (cpS 1 xs), ys)
  else if op = 111 then some (cpS 2 (cpS 2 (cpS 2 xs)), ys)
  else if op = 112 then some (cpS 3 (cpS 3 xs), ys)
  else if op = 113 then some (lfS 5 (lfS 5 xs), ys)
  else if op = 114 then some (lfS 3 (lfS 3 xs), ys)
  else if op = 115 then some (if topTr xs then cpS 0 xs else xs, ys)
  else if op = 116 then some (numI xs.length :: xs, ys)
  else if op = 117 then some (xs.drop 1, ys)
  else if op = 118 then some (cpS 0 xs, ys)
  else if op = 119 then some ((lfS 1 xs).drop 1, ys)
  else if op = 120 then some (cpS 1 xs, ys)
  else if op = 121 then mnS true xs ys
  else if op = 122 then mnS false xs ys
  else if op = 123 then some (lfS 2 xs, ys)
  else if op = 124 then some (lfS 1 xs, ys)
  else some (cpS 1 (lfS 1 xs), ys)
theorem iL_32 {v : Int} (h1 : -(2 ^ 31) < v) (h2 : v < 2 ^ 31) : (iL v).toInt32 = Int32.ofInt v := by
  apply Int32.toInt_inj.mp
  rw [Int64.toInt_toInt32, iL_T (by omega) (by omega), Int32.toInt_ofInt]
theorem i32_T {v : Int} (h1 : -(2 ^ 31) < v) (h2 : v < 2 ^ 31) : (Int32.ofInt v).toInt = v := Int32.toInt_ofInt_of_le (by omega) (by omega)
theorem i32_n {v : Int} (h1 : 0 ≤ v) : Int32.ofInt v = nI v.toNat := by
  show _ = Int32.ofInt ((v.toNat : Nat) : Int)
  rw [Int.toNat_of_nonneg h1]
theorem i32_out {v : Int} {n : Nat} (h1 : -(2 ^ 31) < v) (h2 : v < 2 ^ 31) (hn : n < 2 ^ 20) (h : ¬ (0 ≤ v ∧ v < (n : Int))) : Int32.ofInt v < 0 ∨ nI n ≤ Int32.ofInt v := by
  rw [Int32.lt_iff_toInt_lt, Int32.le_iff_toInt_le, i32_T h1 h2]
  have e : (nI n).toInt = n := i32_T (v := (n : Int)) (by omega) (by omega)
  rw [e]
  have e0 : (0 : Int32).toInt = 0 := rfl
  rw [e0]
  omega
set_option maxRecDepth 100000 in
set_option maxHeartbeats 2000000 in
theorem c_mc_moveByNumber {l : Launch} {G : ks_G} {d : Nat} {S : ks_S} {inp cy pa pe pb ops opn cl : Nat} {kT kC sT sC : Int32} (hM : S.2.2 27 = some (mcO inp cy pa pe pb ops opn cl kT kC sT sC)) {xs ys : List (List Nat)} {u : Nat} (hO : st_ok S xs ys u) {cp : Bool} (hl : xs.length < 1004) : ks_P l G yX7_moveByNumber mX7_moveByNumber (d + 2) [.ref 27, .int (ks_bo cp)] S (mcR LSt S u 0 (mnS cp xs ys)) := by
  have bd := hO.bd
  refine ks_of (by decide) rfl rfl (Nat.le_of_ble_eq_true rfl) ?_
  show ks_X l G mX7_moveByNumber (d + 2) 0 [(0, .ref 27), (1, .int (ks_bo cp))] [] S _
  refine ks_aload_n dX7_moveByNumber_0 rfl rfl ?_
  refine ks_getf (T := TX7) (kf := 3) kx_646 rfl in_X7 cl_X7 (by decide) hM rfl dX7_moveByNumber_1 rfl ?_
  refine ks_iconst (x := nI 0) dX7_moveByNumber_4 (by decide) rfl ?_
  refine ks_iconst (x := nI 4) dX7_moveByNumber_5 (by decide) rfl ?_
  refine ks_callV (n := 2) (M' := mX8_hasNumber) (c_st_hasNumber (d := d + 1) (c := 0) (mo := 4) hO (by decide) (by decide)) hO.ob cl_X8 rfl kx_1596 kx_1597 kx_1598 kx_25 kx_1599 (by decide +kernel) rfl (by decide) (Nat.le_of_ble_eq_true rfl) rfl dX7_moveByNumber_6 rfl (fun r1 T1 q1 => ?_)
  obtain ⟨t, rfl, hS1, ht⟩ := q1
  obtain rfl := hS1.symm
  rw [has_iff] at ht
  refine ks_if_neZ (tgt := 14) dX7_moveByNumber_9 (by decide) rfl (fun h1 => ?_) (fun h1 => ?_)
  · have h4 := ht.mp h1
    have vb := num4 hO h4.1 h4.2
    refine ks_aload_n dX7_moveByNumber_14 rfl rfl ?_
    refine ks_getf (T := TX7) (kf := 3) kx_646 rfl in_X7 cl_X7 (by decide) hM rfl dX7_moveByNumber_15 rfl ?_
    refine ks_iconst (x := nI 0) dX7_moveByNumber_18 (by decide) rfl ?_
    refine ks_callV (n := 1) (M' := mX8_number) (c_st_number (d := d + 1) (c := 0) hO (gD h4.1) (by omega)) hO.ob cl_X8 rfl kx_1600 kx_1601 kx_1602 kx_25 kx_1603 (by decide +kernel) rfl (by decide) (Nat.le_of_ble_eq_true rfl) rfl dX7_moveByNumber_19 rfl (fun r2 T2 q2 => ?_)
    obtain ⟨rfl, hS2⟩ := q2
    obtain rfl := hS2.symm
    refine ks_l2i dX7_moveByNumber_22 rfl ?_
    refine ks_ti (y := Int32.ofInt (numV (xs.getD 0 []))) (iL_32 vb.1 vb.2) ?_
    refine ks_istore_n dX7_moveByNumber_23 (by decide) rfl ?_
    refine ks_sub [(2, _), (0, _), (1, _)] rfl ?_
    refine ks_aload_n dX7_moveByNumber_24 rfl rfl ?_
    refine ks_getf (T := TX7) (kf := 3) kx_646 rfl in_X7 cl_X7 (by decide) hM rfl dX7_moveByNumber_25 rfl ?_
    refine ks_iconst (x := nI 1) dX7_moveByNumber_28 (by decide) rfl ?_
    refine ks_callV (n := 1) (M' := mX8_drop) (c_st_drop (d := d + 1) (c := 1) hO (by omega)) hO.ob cl_X8 rfl kx_1575 kx_1576 kx_1577 kx_25 kx_1578 (by decide +kernel) rfl (by decide) (Nat.le_of_ble_eq_true rfl) rfl dX7_moveByNumber_29 rfl (fun r3 T3 q3 => ?_)
    obtain ⟨rfl, u3, o3⟩ := q3
    have m3 := u3.1.at hM (by decide)
    have ld : (xs.drop 1).length = xs.length - 1 := List.length_drop
    refine ks_pop dX7_moveByNumber_32 rfl rfl ?_
    refine ks_iload_n dX7_moveByNumber_33 rfl rfl ?_
    refine ks_if_eqZ (tgt := 48) dX7_moveByNumber_34 (by decide) rfl (fun h2 => ?_) (fun h2 => ?_)
    · refine ks_aload_n dX7_moveByNumber_48 rfl rfl ?_
      refine ks_getf (T := TX7) (kf := 3) kx_646 rfl in_X7 cl_X7 (by decide) m3 rfl dX7_moveByNumber_49 rfl ?_
      refine ks_iload_n dX7_moveByNumber_52 rfl rfl ?_
      by_cases hr : 0 ≤ numV (xs.getD 0 []) ∧ numV (xs.getD 0 []) < ((xs.drop 1).length : Int)
      · rw [i32_n hr.1]
        have hc9 : (numV (xs.getD 0 [])).toNat < (xs.drop 1).length := by omega
        refine ks_callV (n := 1) (M' := mX8_lift) (c_st_lift (d := d) (c := (numV (xs.getD 0 [])).toNat) o3 (gD hc9)) o3.ob cl_X8 rfl kx_1679 kx_1680 kx_1681 kx_25 kx_1682 (by decide +kernel) rfl (by decide) (Nat.le_of_ble_eq_true rfl) rfl dX7_moveByNumber_53 rfl (fun r4 T4 q4 => ?_)
        obtain ⟨rfl, u4, o4⟩ := q4
        have m4 := u4.1.at m3 (by decide)
        refine ks_zret rfl (ks_bo_z _) dX7_moveByNumber_56 ?_
        unfold mnS
        rw [if_pos h4, if_pos hr, h2]
        exact mcR.yes (u3.trans u4 (by omega)) (Nat.le_refl _) (Nat.le_refl _) o4
      · refine ks_callV (n := 1) (M' := mX8_lift) (c_st_liftF (d := d) o3 (i32_out vb.1 vb.2 (by omega) hr)) o3.ob cl_X8 rfl kx_1679 kx_1680 kx_1681 kx_25 kx_1682 (by decide +kernel) rfl (by decide) (Nat.le_of_ble_eq_true rfl) rfl dX7_moveByNumber_53 rfl (fun r4 T4 q4 => ?_)
        obtain ⟨rfl, hS4⟩ := q4
        obtain rfl := hS4.symm
        refine ks_zret rfl (ks_bo_z _) dX7_moveByNumber_56 ?_
        unfold mnS
        rw [if_pos h4, if_neg hr]
        exact mcR.no (u3).1 o3
    · refine ks_aload_n dX7_moveByNumber_37 rfl rfl ?_
      refine ks_getf (T := TX7) (kf := 3) kx_646 rfl in_X7 cl_X7 (by decide) m3 rfl dX7_moveByNumber_38 rfl ?_
      refine ks_iload_n dX7_moveByNumber_41 rfl rfl ?_
      by_cases hr : 0 ≤ numV (xs.getD 0 []) ∧ numV (xs.getD 0 []) < ((xs.drop 1).length : Int)
      · rw [i32_n hr.1]
        have hc9 : (numV (xs.getD 0 [])).toNat < (xs.drop 1).length := by omega
        refine ks_callV (n := 1) (M' := mX8_copy) (c_st_copy (d := d + 1) (c := (numV (xs.getD 0 [])).toNat) o3 (gD hc9) (by omega)) o3.ob cl_X8 rfl kx_1675 kx_1676 kx_1677 kx_25 kx_1678 (by decide +kernel) rfl (by decide) (Nat.le_of_ble_eq_true rfl) rfl dX7_moveByNumber_42 rfl (fun r4 T4 q4 => ?_)
        obtain ⟨rfl, u4, o4⟩ := q4
        have m4 := u4.1.at m3 (by decide)
        refine ks_goto (tgt := 56) dX7_moveByNumber_45 (by decide) ?_
        refine ks_zret rfl (ks_bo_z _) dX7_moveByNumber_56 ?_
        unfold mnS
        rw [if_pos h4, if_pos hr, h2]
        exact mcR.yes (u3.trans u4 (by omega)) (Nat.le_refl _) (Nat.le_refl _) o4
      · refine ks_callV (n := 1) (M' := mX8_copy) (c_st_copyF (d := d + 1) o3 (i32_out vb.1 vb.2 (by omega) hr)) o3.ob cl_X8 rfl kx_1675 kx_1676 kx_1677 kx_25 kx_1678 (by decide +kernel) rfl (by decide) (Nat.le_of_ble_eq_true rfl) rfl dX7_moveByNumber_42 rfl (fun r4 T4 q4 => ?_)
        obtain ⟨rfl, hS4⟩ := q4
        obtain rfl := hS4.symm
        refine ks_goto (tgt := 56) dX7_moveByNumber_45 (by decide) ?_
        refine ks_zret rfl (ks_bo_z _) dX7_moveByNumber_56 ?_
        unfold mnS
        rw [if_pos h4, if_neg hr]
        exact mcR.no (u3).1 o3
  · refine ks_iconst (x := nI 0) dX7_moveByNumber_12 (by decide) rfl ?_
    refine ks_zret rfl rfl dX7_moveByNumber_13 ?_
    unfold mnS
    rw [if_neg (fun h => by have := ht.mpr h; rw [h1] at this; cases this)]
    exact mcR.no (ks_up.rf _ _) hO
theorem mcR.bool {L : List Nat} {S S1 : ks_S} {u b : Nat} {r : Option (List (List Nat) × List (List Nat))} {z : Option Value} (h : mcR L S u b r z S1) : ∃ t, z = some (.int (ks_bo t)) := by
  cases r with
  | none => exact ⟨false, h.1⟩
  | some q => exact ⟨true, h.1⟩
theorem mcR.mono {L : List Nat} {S S1 : ks_S} {u b b2 : Nat} {r : Option (List (List Nat) × List (List Nat))} {z : Option Value} (h : mcR L S u b r z S1) (hb : b ≤ b2) : mcR L S u b2 r z S1 := by
  cases r with
  | none => exact h
  | some q =>
    obtain ⟨h1, h2, u2, h3, h4, h5⟩ := h
    exact ⟨h1, h2, u2, h3, by omega, h5⟩
theorem st_NEEDED_row {S : ks_S} (hK : ks_stOK S) : S.2.2 (ks_B + 11) = some (kN 19 ndF) := by
  have h := hK 11 _ rfl
  have e : (fun j => nI (ndF j)) = ks_row st_NEEDED := by
    funext j
    by_cases hj : j < 19
    · exact (show ∀ j, j < 19 → nI (ndF j) = ks_row st_NEEDED j by decide) j hj
    · show nI (([1, 0, 2, 2, 3, 4, 6, 4, 1, 0, 1, 1, 2, 2, 2, 2, 3, 2, 2] : List Nat).getD (107 + j - 107) 0) = _
      rw [Nat.add_sub_cancel_left, gDd _ (by show 19 ≤ j; omega)]
      exact (gDd _ (by show 19 ≤ j; omega)).symm
  rw [h]
  show some (kI 19 _) = some (.inl (1, 19, .inl (fun j => nI (ndF j))))
  rw [e]
set_option maxRecDepth 100000 in
set_option maxHeartbeats 2000000 in
theorem c_mc_move {l : Launch} {G : ks_G} {d : Nat} {S : ks_S} {inp cy pa pe pb ops opn cl : Nat} {kT kC sT sC : Int32} (hM : S.2.2 27 = some (mcO inp cy pa pe pb ops opn cl kT kC sT sC)) {xs ys : List (List Nat)} {u : Nat} (hO : st_ok S xs ys u) {op : Nat} (hK : ks_stOK S) (ho1 : 107 ≤ op) (ho2 : op ≤ 125) (hl : xs.length ≤ 1000) (hly : ys.length ≤ 1000) (hu : u + 8 ≤ 24096) : ks_P l G yX7_move mX7_move (d + 3) [.ref 27, .int (nI op)] S (mcR LSt S u 8 (mvS op xs ys)) := by
  have bd := hO.bd
  refine ks_of (by decide) rfl rfl (Nat.le_of_ble_eq_true rfl) ?_
  show ks_X l G mX7_move (d + 3) 0 [(0, .ref 27), (1, .int (nI op))] [] S _
  have hop : op < 256 := by omega
  have hN := st_NEEDED_row hK
  have hnd := ndF_le (op - 107)
  refine ks_aload_n dX7_move_0 rfl rfl ?_
  refine ks_getf (T := TX7) (kf := 3) kx_646 rfl in_X7 cl_X7 (by decide) hM rfl dX7_move_1 rfl ?_
  refine ks_getf (T := TX8) (kf := 3) kx_615 rfl in_X8 cl_X8 (by decide) hO.ob rfl dX7_move_4 rfl ?_
  refine ks_gets (i := 11) rfl rfl kx_1665 dX7_move_7 rfl ?_
  refine ks_iload_n dX7_move_10 rfl rfl ?_
  refine ks_bipush (x := nI 107) dX7_move_11 (by decide) rfl ?_
  refine ks_subN (by omega) dX7_move_13 rfl ?_
  refine ks_ialdN (i := op - 107) hN rfl (by omega) (by decide) dX7_move_14 rfl ?_
  refine ks_icmp_geN (tgt := 20) (by omega) (by omega) dX7_move_15 (by decide) rfl (fun h1 => ?_) (fun h1 => ?_)
  · have en : ndF (op - 107) = ndO op := by unfold ndF; rw [show 107 + (op - 107) = op by omega]
    rw [en] at h1
    have e0 : mvS op xs ys = mvS op xs ys := rfl
    conv at e0 => rhs; unfold mvS
    rw [if_neg (by omega)] at e0
    refine ks_iload_n dX7_move_20 rfl rfl ?_
    have hsw : op = 107 ∨ op = 108 ∨ op = 109 ∨ op = 110 ∨ op = 111 ∨ op = 112 ∨ op = 113 ∨ op = 114 ∨ op = 115 ∨ op = 116 ∨ op = 117 ∨ op = 118 ∨ op = 119 ∨ op = 120 ∨ op = 121 ∨ op = 122 ∨ op = 123 ∨ op = 124 ∨ ((op < 107 ∨ 124 < op)) := by omega
    rcases hsw with rfl | rfl | rfl | rfl | rfl | rfl | rfl | rfl | rfl | rfl | rfl | rfl | rfl | rfl | rfl | rfl | rfl | rfl | hsw
    · refine ks_tableIn (off := 87) (tgt := 108) dX7_move_21 (by decide) (by decide) (by decide) (by decide) ?_
      simp (config := { decide := true }) only [if_true, if_false] at e0
      rw [e0]
      simp (config := { decide := true }) only [ndO, Nat.reduceSub, List.getD_cons_succ, List.getD_cons_zero, Nat.not_lt] at h1
      obtain ⟨x0, xr, rfl⟩ : ∃ a r, xs = a :: r := by
        match xs, h1 with
        | a :: r, _ => exact ⟨a, r, rfl⟩
        | [], h => simp at h
      refine ks_aload_n dX7_move_108 rfl rfl ?_
      refine ks_getf (T := TX7) (kf := 3) kx_646 rfl in_X7 cl_X7 (by decide) hM rfl dX7_move_109 rfl ?_
      refine ks_callV (n := 0) (M' := mX8_putAside) (c_st_putAside (d := d + 2) hO rfl (by omega)) hO.ob cl_X8 rfl kx_1667 kx_1668 kx_1669 kx_25 kx_1670 (by decide +kernel) rfl (by decide) (Nat.le_of_ble_eq_true rfl) rfl dX7_move_112 rfl (fun r1 T1 q1 => ?_)
      obtain ⟨rfl, u1, o1⟩ := q1
      have m1 := u1.1.at hM (by decide)
      refine ks_zret rfl (ks_bo_z _) dX7_move_115 ?_
      exact mcR.yes u1 (by omega) (by omega) o1
    · refine ks_tableIn (off := 95) (tgt := 116) dX7_move_21 (by decide) (by decide) (by decide) (by decide) ?_
      simp (config := { decide := true }) only [if_true, if_false] at e0
      rw [e0]
      simp (config := { decide := true }) only [ndO, Nat.reduceSub, List.getD_cons_succ, List.getD_cons_zero, Nat.not_lt] at h1
      refine ks_aload_n dX7_move_116 rfl rfl ?_
      refine ks_getf (T := TX7) (kf := 3) kx_646 rfl in_X7 cl_X7 (by decide) hM rfl dX7_move_117 rfl ?_
      refine ks_callV (n := 0) (M' := mX8_takeBack) (c_st_takeBack (d := d + 2) hO (by omega)) hO.ob cl_X8 rfl kx_1671 kx_1672 kx_1673 kx_25 kx_1674 (by decide +kernel) rfl (by decide) (Nat.le_of_ble_eq_true rfl) rfl dX7_move_120 rfl (fun r1 T1 q1 => ?_)
      rcases q1 with ⟨hy0, rfl, hS3⟩ | ⟨y0, yr, hy0, rfl, u3, o3⟩
      · obtain rfl := hS3.symm
        refine ks_zret rfl (ks_bo_z _) dX7_move_123 ?_
        rw [hy0]
        exact mcR.no (ks_up.rf _ _) hO
      · refine ks_zret rfl (ks_bo_z _) dX7_move_123 ?_
        rw [hy0]
        exact mcR.yes u3 (by omega) (by omega) o3
    · refine ks_tableIn (off := 103) (tgt := 124) dX7_move_21 (by decide) (by decide) (by decide) (by decide) ?_
      simp (config := { decide := true }) only [if_true, if_false] at e0
      rw [e0]
      simp (config := { decide := true }) only [ndO, Nat.reduceSub, List.getD_cons_succ, List.getD_cons_zero, Nat.not_lt] at h1
      refine ks_aload_n dX7_move_124 rfl rfl ?_
      refine ks_getf (T := TX7) (kf := 3) kx_646 rfl in_X7 cl_X7 (by decide) hM rfl dX7_move_125 rfl ?_
      refine ks_iconst (x := nI 2) dX7_move_128 (by decide) rfl ?_
      refine ks_callV (n := 1) (M' := mX8_drop) (c_st_drop (d := d + 2) (c := 2) hO (by omega)) hO.ob cl_X8 rfl kx_1575 kx_1576 kx_1577 kx_25 kx_1578 (by decide +kernel) rfl (by decide) (Nat.le_of_ble_eq_true rfl) rfl dX7_move_129 rfl (fun r1 T1 q1 => ?_)
      obtain ⟨rfl, u1, o1⟩ := q1
      have m1 := u1.1.at hM (by decide)
      change st_ok _ (xs.drop 2) _ _ at o1
      refine ks_zret rfl (ks_bo_z _) dX7_move_132 ?_
      exact mcR.yes u1 (by omega) (by omega) o1
    · refine ks_tableIn (off := 112) (tgt := 133) dX7_move_21 (by decide) (by decide) (by decide) (by decide) ?_
      simp (config := { decide := true }) only [if_true, if_false] at e0
      rw [e0]
      simp (config := { decide := true }) only [ndO, Nat.reduceSub, List.getD_cons_succ, List.getD_cons_zero, Nat.not_lt] at h1
      refine ks_aload_n dX7_move_133 rfl rfl ?_
      refine ks_getf (T := TX7) (kf := 3) kx_646 rfl in_X7 cl_X7 (by decide) hM rfl dX7_move_134 rfl ?_
      refine ks_iconst (x := nI 1) dX7_move_137 (by decide) rfl ?_
      refine ks_callV (n := 1) (M' := mX8_copy) (c_st_copy (d := d + 2) (c := 1) hO (gD (by omega)) (by omega)) hO.ob cl_X8 rfl kx_1675 kx_1676 kx_1677 kx_25 kx_1678 (by decide +kernel) rfl (by decide) (Nat.le_of_ble_eq_true rfl) rfl dX7_move_138 rfl (fun r1 T1 q1 => ?_)
      obtain ⟨rfl, u1, o1⟩ := q1
      have m1 := u1.1.at hM (by decide)
      change st_ok _ (cpS 1 xs) _ _ at o1
      have l1 : (cpS 1 xs).length = xs.length + 1 := by simp only [cpS_len]; all_goals omega
      refine ks_if_eqZ (tgt := 159) dX7_move_141 (by decide) rfl (fun g0 => ?_) (fun g0 => ?_)
      · exact absurd g0 (by decide)
      · refine ks_aload_n dX7_move_144 rfl rfl ?_
        refine ks_getf (T := TX7) (kf := 3) kx_646 rfl in_X7 cl_X7 (by decide) m1 rfl dX7_move_145 rfl ?_
        refine ks_iconst (x := nI 1) dX7_move_148 (by decide) rfl ?_
        refine ks_callV (n := 1) (M' := mX8_copy) (c_st_copy (d := d + 2) (c := 1) o1 (gD (by omega)) (by omega)) o1.ob cl_X8 rfl kx_1675 kx_1676 kx_1677 kx_25 kx_1678 (by decide +kernel) rfl (by decide) (Nat.le_of_ble_eq_true rfl) rfl dX7_move_149 rfl (fun r2 T2 q2 => ?_)
        obtain ⟨rfl, u2, o2⟩ := q2
        have m2 := u2.1.at m1 (by decide)
        change st_ok _ (cpS 1 (cpS 1 xs)) _ _ at o2
        have l2 : (cpS 1 (cpS 1 xs)).length = xs.length + 2 := by simp only [cpS_len]; all_goals omega
        refine ks_if_eqZ (tgt := 159) dX7_move_152 (by decide) rfl (fun g0 => ?_) (fun g0 => ?_)
        · exact absurd g0 (by decide)
        · refine ks_iconst (x := nI 1) dX7_move_155 (by decide) rfl ?_
          refine ks_goto (tgt := 160) dX7_move_156 (by decide) ?_
          refine ks_zret rfl rfl dX7_move_160 ?_
          exact mcR.yes (u1.trans u2 (by omega)) (by omega) (by omega) o2
    · refine ks_tableIn (off := 140) (tgt := 161) dX7_move_21 (by decide) (by decide) (by decide) (by decide) ?_
      simp (config := { decide := true }) only [if_true, if_false] at e0
      rw [e0]
      simp (config := { decide := true }) only [ndO, Nat.reduceSub, List.getD_cons_succ, List.getD_cons_zero, Nat.not_lt] at h1
      refine ks_aload_n dX7_move_161 rfl rfl ?_
      refine ks_getf (T := TX7) (kf := 3) kx_646 rfl in_X7 cl_X7 (by decide) hM rfl dX7_move_162 rfl ?_
      refine ks_iconst (x := nI 2) dX7_move_165 (by decide) rfl ?_
      refine ks_callV (n := 1) (M' := mX8_copy) (c_st_copy (d := d + 2) (c := 2) hO (gD (by omega)) (by omega)) hO.ob cl_X8 rfl kx_1675 kx_1676 kx_1677 kx_25 kx_1678 (by decide +kernel) rfl (by decide) (Nat.le_of_ble_eq_true rfl) rfl dX7_move_166 rfl (fun r1 T1 q1 => ?_)
      obtain ⟨rfl, u1, o1⟩ := q1
      have m1 := u1.1.at hM (by decide)
      change st_ok _ (cpS 2 xs) _ _ at o1
      have l1 : (cpS 2 xs).length = xs.length + 1 := by simp only [cpS_len]; all_goals omega
      refine ks_if_eqZ (tgt := 198) dX7_move_169 (by decide) rfl (fun g0 => ?_) (fun g0 => ?_)
      · exact absurd g0 (by decide)
      · refine ks_aload_n dX7_move_172 rfl rfl ?_
        refine ks_getf (T := TX7) (kf := 3) kx_646 rfl in_X7 cl_X7 (by decide) m1 rfl dX7_move_173 rfl ?_
        refine ks_iconst (x := nI 2) dX7_move_176 (by decide) rfl ?_
        refine ks_callV (n := 1) (M' := mX8_copy) (c_st_copy (d := d + 2) (c := 2) o1 (gD (by omega)) (by omega)) o1.ob cl_X8 rfl kx_1675 kx_1676 kx_1677 kx_25 kx_1678 (by decide +kernel) rfl (by decide) (Nat.le_of_ble_eq_true rfl) rfl dX7_move_177 rfl (fun r2 T2 q2 => ?_)
        obtain ⟨rfl, u2, o2⟩ := q2
        have m2 := u2.1.at m1 (by decide)
        change st_ok _ (cpS 2 (cpS 2 xs)) _ _ at o2
        have l2 : (cpS 2 (cpS 2 xs)).length = xs.length + 2 := by simp only [cpS_len]; all_goals omega
        refine ks_if_eqZ (tgt := 198) dX7_move_180 (by decide) rfl (fun g0 => ?_) (fun g0 => ?_)
        · exact absurd g0 (by decide)
        · refine ks_aload_n dX7_move_183 rfl rfl ?_
          refine ks_getf (T := TX7) (kf := 3) kx_646 rfl in_X7 cl_X7 (by decide) m2 rfl dX7_move_184 rfl ?_
          refine ks_iconst (x := nI 2) dX7_move_187 (by decide) rfl ?_
          refine ks_callV (n := 1) (M' := mX8_copy) (c_st_copy (d := d + 2) (c := 2) o2 (gD (by omega)) (by omega)) o2.ob cl_X8 rfl kx_1675 kx_1676 kx_1677 kx_25 kx_1678 (by decide +kernel) rfl (by decide) (Nat.le_of_ble_eq_true rfl) rfl dX7_move_188 rfl (fun r3 T3 q3 => ?_)
          obtain ⟨rfl, u3, o3⟩ := q3
          have m3 := u3.1.at m2 (by decide)
          change st_ok _ (cpS 2 (cpS 2 (cpS 2 xs))) _ _ at o3
          have l3 : (cpS 2 (cpS 2 (cpS 2 xs))).length = xs.length + 3 := by simp only [cpS_len]; all_goals omega
          refine ks_if_eqZ (tgt := 198) dX7_move_191 (by decide) rfl (fun g0 => ?_) (fun g0 => ?_)
          · exact absurd g0 (by decide)
          · refine ks_iconst (x := nI 1) dX7_move_194 (by decide) rfl ?_
            refine ks_goto (tgt := 199) dX7_move_195 (by decide) ?_
            refine ks_zret rfl rfl dX7_move_199 ?_
            exact mcR.yes ((u1.trans u2 (by omega)).trans u3 (by omega)) (by omega) (by omega) o3
    · refine ks_tableIn (off := 179) (tgt := 200) dX7_move_21 (by decide) (by decide) (by decide) (by decide) ?_
      simp (config := { decide := true }) only [if_true, if_false] at e0
      rw [e0]
      simp (config := { decide := true }) only [ndO, Nat.reduceSub, List.getD_cons_succ, List.getD_cons_zero, Nat.not_lt] at h1
      refine ks_aload_n dX7_move_200 rfl rfl ?_
      refine ks_getf (T := TX7) (kf := 3) kx_646 rfl in_X7 cl_X7 (by decide) hM rfl dX7_move_201 rfl ?_
      refine ks_iconst (x := nI 3) dX7_move_204 (by decide) rfl ?_
      refine ks_callV (n := 1) (M' := mX8_copy) (c_st_copy (d := d + 2) (c := 3) hO (gD (by omega)) (by omega)) hO.ob cl_X8 rfl kx_1675 kx_1676 kx_1677 kx_25 kx_1678 (by decide +kernel) rfl (by decide) (Nat.le_of_ble_eq_true rfl) rfl dX7_move_205 rfl (fun r1 T1 q1 => ?_)
      obtain ⟨rfl, u1, o1⟩ := q1
      have m1 := u1.1.at hM (by decide)
      change st_ok _ (cpS 3 xs) _ _ at o1
      have l1 : (cpS 3 xs).length = xs.length + 1 := by simp only [cpS_len]; all_goals omega
      refine ks_if_eqZ (tgt := 226) dX7_move_208 (by decide) rfl (fun g0 => ?_) (fun g0 => ?_)
      · exact absurd g0 (by decide)
      · refine ks_aload_n dX7_move_211 rfl rfl ?_
        refine ks_getf (T := TX7) (kf := 3) kx_646 rfl in_X7 cl_X7 (by decide) m1 rfl dX7_move_212 rfl ?_
        refine ks_iconst (x := nI 3) dX7_move_215 (by decide) rfl ?_
        refine ks_callV (n := 1) (M' := mX8_copy) (c_st_copy (d := d + 2) (c := 3) o1 (gD (by omega)) (by omega)) o1.ob cl_X8 rfl kx_1675 kx_1676 kx_1677 kx_25 kx_1678 (by decide +kernel) rfl (by decide) (Nat.le_of_ble_eq_true rfl) rfl dX7_move_216 rfl (fun r2 T2 q2 => ?_)
        obtain ⟨rfl, u2, o2⟩ := q2
        have m2 := u2.1.at m1 (by decide)
        change st_ok _ (cpS 3 (cpS 3 xs)) _ _ at o2
        have l2 : (cpS 3 (cpS 3 xs)).length = xs.length + 2 := by simp only [cpS_len]; all_goals omega
        refine ks_if_eqZ (tgt := 226) dX7_move_219 (by decide) rfl (fun g0 => ?_) (fun g0 => ?_)
        · exact absurd g0 (by decide)
        · refine ks_iconst (x := nI 1) dX7_move_222 (by decide) rfl ?_
          refine ks_goto (tgt := 227) dX7_move_223 (by decide) ?_
          refine ks_zret rfl rfl dX7_move_227 ?_
          exact mcR.yes (u1.trans u2 (by omega)) (by omega) (by omega) o2
    · refine ks_tableIn (off := 207) (tgt := 228) dX7_move_21 (by decide) (by decide) (by decide) (by decide) ?_
      simp (config := { decide := true }) only [if_true, if_false] at e0
      rw [e0]
      simp (config := { decide := true }) only [ndO, Nat.reduceSub, List.getD_cons_succ, List.getD_cons_zero, Nat.not_lt] at h1
      refine ks_aload_n dX7_move_228 rfl rfl ?_
      refine ks_getf (T := TX7) (kf := 3) kx_646 rfl in_X7 cl_X7 (by decide) hM rfl dX7_move_229 rfl ?_
      refine ks_iconst (x := nI 5) dX7_move_232 (by decide) rfl ?_
      refine ks_callV (n := 1) (M' := mX8_lift) (c_st_lift (d := d + 1) (c := 5) hO (gD (by omega))) hO.ob cl_X8 rfl kx_1679 kx_1680 kx_1681 kx_25 kx_1682 (by decide +kernel) rfl (by decide) (Nat.le_of_ble_eq_true rfl) rfl dX7_move_233 rfl (fun r1 T1 q1 => ?_)
      obtain ⟨rfl, u1, o1⟩ := q1
      have m1 := u1.1.at hM (by decide)
      change st_ok _ (lfS 5 xs) _ _ at o1
      have l1 : (lfS 5 xs).length = xs.length := (lfS_len (by omega)).trans (by omega)
      refine ks_if_eqZ (tgt := 254) dX7_move_236 (by decide) rfl (fun g0 => ?_) (fun g0 => ?_)
      · exact absurd g0 (by decide)
      · refine ks_aload_n dX7_move_239 rfl rfl ?_
        refine ks_getf (T := TX7) (kf := 3) kx_646 rfl in_X7 cl_X7 (by decide) m1 rfl dX7_move_240 rfl ?_
        refine ks_iconst (x := nI 5) dX7_move_243 (by decide) rfl ?_
        refine ks_callV (n := 1) (M' := mX8_lift) (c_st_lift (d := d + 1) (c := 5) o1 (gD (by omega))) o1.ob cl_X8 rfl kx_1679 kx_1680 kx_1681 kx_25 kx_1682 (by decide +kernel) rfl (by decide) (Nat.le_of_ble_eq_true rfl) rfl dX7_move_244 rfl (fun r2 T2 q2 => ?_)
        obtain ⟨rfl, u2, o2⟩ := q2
        have m2 := u2.1.at m1 (by decide)
        change st_ok _ (lfS 5 (lfS 5 xs)) _ _ at o2
        have l2 : (lfS 5 (lfS 5 xs)).length = xs.length := (lfS_len (by omega)).trans (by omega)
        refine ks_if_eqZ (tgt := 254) dX7_move_247 (by decide) rfl (fun g0 => ?_) (fun g0 => ?_)
        · exact absurd g0 (by decide)
        · refine ks_iconst (x := nI 1) dX7_move_250 (by decide) rfl ?_
          refine ks_goto (tgt := 255) dX7_move_251 (by decide) ?_
          refine ks_zret rfl rfl dX7_move_255 ?_
          exact mcR.yes (u1.trans u2 (by omega)) (by omega) (by omega) o2
    · refine ks_tableIn (off := 235) (tgt := 256) dX7_move_21 (by decide) (by decide) (by decide) (by decide) ?_
      simp (config := { decide := true }) only [if_true, if_false] at e0
      rw [e0]
      simp (config := { decide := true }) only [ndO, Nat.reduceSub, List.getD_cons_succ, List.getD_cons_zero, Nat.not_lt] at h1
      refine ks_aload_n dX7_move_256 rfl rfl ?_
      refine ks_getf (T := TX7) (kf := 3) kx_646 rfl in_X7 cl_X7 (by decide) hM rfl dX7_move_257 rfl ?_
      refine ks_iconst (x := nI 3) dX7_move_260 (by decide) rfl ?_
      refine ks_callV (n := 1) (M' := mX8_lift) (c_st_lift (d := d + 1) (c := 3) hO (gD (by omega))) hO.ob cl_X8 rfl kx_1679 kx_1680 kx_1681 kx_25 kx_1682 (by decide +kernel) rfl (by decide) (Nat.le_of_ble_eq_true rfl) rfl dX7_move_261 rfl (fun r1 T1 q1 => ?_)
      obtain ⟨rfl, u1, o1⟩ := q1
      have m1 := u1.1.at hM (by decide)
      change st_ok _ (lfS 3 xs) _ _ at o1
      have l1 : (lfS 3 xs).length = xs.length := (lfS_len (by omega)).trans (by omega)
      refine ks_if_eqZ (tgt := 282) dX7_move_264 (by decide) rfl (fun g0 => ?_) (fun g0 => ?_)
      · exact absurd g0 (by decide)
      · refine ks_aload_n dX7_move_267 rfl rfl ?_
        refine ks_getf (T := TX7) (kf := 3) kx_646 rfl in_X7 cl_X7 (by decide) m1 rfl dX7_move_268 rfl ?_
        refine ks_iconst (x := nI 3) dX7_move_271 (by decide) rfl ?_
        refine ks_callV (n := 1) (M' := mX8_lift) (c_st_lift (d := d + 1) (c := 3) o1 (gD (by omega))) o1.ob cl_X8 rfl kx_1679 kx_1680 kx_1681 kx_25 kx_1682 (by decide +kernel) rfl (by decide) (Nat.le_of_ble_eq_true rfl) rfl dX7_move_272 rfl (fun r2 T2 q2 => ?_)
        obtain ⟨rfl, u2, o2⟩ := q2
        have m2 := u2.1.at m1 (by decide)
        change st_ok _ (lfS 3 (lfS 3 xs)) _ _ at o2
        have l2 : (lfS 3 (lfS 3 xs)).length = xs.length := (lfS_len (by omega)).trans (by omega)
        refine ks_if_eqZ (tgt := 282) dX7_move_275 (by decide) rfl (fun g0 => ?_) (fun g0 => ?_)
        · exact absurd g0 (by decide)
        · refine ks_iconst (x := nI 1) dX7_move_278 (by decide) rfl ?_
          refine ks_goto (tgt := 283) dX7_move_279 (by decide) ?_
          refine ks_zret rfl rfl dX7_move_283 ?_
          exact mcR.yes (u1.trans u2 (by omega)) (by omega) (by omega) o2
    · refine ks_tableIn (off := 263) (tgt := 284) dX7_move_21 (by decide) (by decide) (by decide) (by decide) ?_
      simp (config := { decide := true }) only [if_true, if_false] at e0
      rw [e0]
      simp (config := { decide := true }) only [ndO, Nat.reduceSub, List.getD_cons_succ, List.getD_cons_zero, Nat.not_lt] at h1
      refine ks_aload_n dX7_move_284 rfl rfl ?_
      refine ks_getf (T := TX7) (kf := 3) kx_646 rfl in_X7 cl_X7 (by decide) hM rfl dX7_move_285 rfl ?_
      refine ks_callV (n := 0) (M' := mX8_isTopTrue) (c_st_isTopTrue (d := d + 2) hO) hO.ob cl_X8 rfl kx_1571 kx_1572 kx_1573 kx_25 kx_1574 (by decide +kernel) rfl (by decide) (Nat.le_of_ble_eq_true rfl) rfl dX7_move_288 rfl (fun r1 T1 q1 => ?_)
      obtain ⟨rfl, hS2⟩ := q1
      obtain rfl := hS2.symm
      refine ks_if_eqZ (tgt := 305) dX7_move_291 (by decide) rfl (fun g0 => ?_) (fun g0 => ?_)
      · refine ks_iconst (x := nI 1) dX7_move_305 (by decide) rfl ?_
        refine ks_goto (tgt := 310) dX7_move_306 (by decide) ?_
        refine ks_zret rfl rfl dX7_move_310 ?_
        rw [g0, if_neg (by decide)]
        exact mcR.yes (stU.rf _ _) (by omega) (by omega) hO
      · rw [g0, if_pos rfl]
        refine ks_aload_n dX7_move_294 rfl rfl ?_
        refine ks_getf (T := TX7) (kf := 3) kx_646 rfl in_X7 cl_X7 (by decide) hM rfl dX7_move_295 rfl ?_
        refine ks_iconst (x := nI 0) dX7_move_298 (by decide) rfl ?_
        refine ks_callV (n := 1) (M' := mX8_copy) (c_st_copy (d := d + 2) (c := 0) hO (gD (by omega)) (by omega)) hO.ob cl_X8 rfl kx_1675 kx_1676 kx_1677 kx_25 kx_1678 (by decide +kernel) rfl (by decide) (Nat.le_of_ble_eq_true rfl) rfl dX7_move_299 rfl (fun r2 T2 q2 => ?_)
        obtain ⟨rfl, u2, o2⟩ := q2
        have m2 := u2.1.at hM (by decide)
        change st_ok _ (cpS 0 xs) _ _ at o2
        have l2 : (cpS 0 xs).length = xs.length + 1 := by simp only [cpS_len]; all_goals omega
        refine ks_if_eqZ (tgt := 309) dX7_move_302 (by decide) rfl (fun g0 => ?_) (fun g0 => ?_)
        · exact absurd g0 (by decide)
        · refine ks_iconst (x := nI 1) dX7_move_305 (by decide) rfl ?_
          refine ks_goto (tgt := 310) dX7_move_306 (by decide) ?_
          refine ks_zret rfl rfl dX7_move_310 ?_
          exact mcR.yes u2 (by omega) (by omega) o2
    · refine ks_tableIn (off := 290) (tgt := 311) dX7_move_21 (by decide) (by decide) (by decide) (by decide) ?_
      simp (config := { decide := true }) only [if_true, if_false] at e0
      rw [e0]
      simp (config := { decide := true }) only [ndO, Nat.reduceSub, List.getD_cons_succ, List.getD_cons_zero, Nat.not_lt] at h1
      refine ks_aload_n dX7_move_311 rfl rfl ?_
      refine ks_getf (T := TX7) (kf := 3) kx_646 rfl in_X7 cl_X7 (by decide) hM rfl dX7_move_312 rfl ?_
      refine ks_aload_n dX7_move_315 rfl rfl ?_
      refine ks_getf (T := TX7) (kf := 3) kx_646 rfl in_X7 cl_X7 (by decide) hM rfl dX7_move_316 rfl ?_
      refine ks_getf (T := TX8) (kf := 3) kx_615 rfl in_X8 cl_X8 (by decide) hO.ob rfl dX7_move_319 rfl ?_
      refine ks_i2lN (by omega) dX7_move_322 rfl ?_
      have n9 : nsN ((xs.length : Nat) : Int).natAbs ≤ 3 := nsN_le (k := 2) (show xs.length < 256 ^ 2 by omega)
      refine ks_callV (n := 1) (M' := mX8_addNumber) (c_st_addI (d := d) (v := (xs.length : Int)) hO (show xs.length < 2 ^ 48 by omega) (by omega) (by omega)) hO.ob cl_X8 rfl kx_1657 kx_1658 kx_1659 kx_25 kx_1660 (by decide +kernel) rfl (by decide) (Nat.le_of_ble_eq_true rfl) rfl dX7_move_323 rfl (fun r1 T1 q1 => ?_)
      obtain ⟨rfl, u1, o1⟩ := q1
      have m1 := u1.1.at hM (by decide)
      refine ks_zret rfl (ks_bo_z _) dX7_move_326 ?_
      exact mcR.yes u1 (by omega) (by omega) o1
    · refine ks_tableIn (off := 306) (tgt := 327) dX7_move_21 (by decide) (by decide) (by decide) (by decide) ?_
      simp (config := { decide := true }) only [if_true, if_false] at e0
      rw [e0]
      simp (config := { decide := true }) only [ndO, Nat.reduceSub, List.getD_cons_succ, List.getD_cons_zero, Nat.not_lt] at h1
      refine ks_aload_n dX7_move_327 rfl rfl ?_
      refine ks_getf (T := TX7) (kf := 3) kx_646 rfl in_X7 cl_X7 (by decide) hM rfl dX7_move_328 rfl ?_
      refine ks_iconst (x := nI 1) dX7_move_331 (by decide) rfl ?_
      refine ks_callV (n := 1) (M' := mX8_drop) (c_st_drop (d := d + 2) (c := 1) hO (by omega)) hO.ob cl_X8 rfl kx_1575 kx_1576 kx_1577 kx_25 kx_1578 (by decide +kernel) rfl (by decide) (Nat.le_of_ble_eq_true rfl) rfl dX7_move_332 rfl (fun r1 T1 q1 => ?_)
      obtain ⟨rfl, u1, o1⟩ := q1
      have m1 := u1.1.at hM (by decide)
      change st_ok _ (xs.drop 1) _ _ at o1
      refine ks_zret rfl (ks_bo_z _) dX7_move_335 ?_
      exact mcR.yes u1 (by omega) (by omega) o1
    · refine ks_tableIn (off := 315) (tgt := 336) dX7_move_21 (by decide) (by decide) (by decide) (by decide) ?_
      simp (config := { decide := true }) only [if_true, if_false] at e0
      rw [e0]
      simp (config := { decide := true }) only [ndO, Nat.reduceSub, List.getD_cons_succ, List.getD_cons_zero, Nat.not_lt] at h1
      refine ks_aload_n dX7_move_336 rfl rfl ?_
      refine ks_getf (T := TX7) (kf := 3) kx_646 rfl in_X7 cl_X7 (by decide) hM rfl dX7_move_337 rfl ?_
      refine ks_iconst (x := nI 0) dX7_move_340 (by decide) rfl ?_
      refine ks_callV (n := 1) (M' := mX8_copy) (c_st_copy (d := d + 2) (c := 0) hO (gD (by omega)) (by omega)) hO.ob cl_X8 rfl kx_1675 kx_1676 kx_1677 kx_25 kx_1678 (by decide +kernel) rfl (by decide) (Nat.le_of_ble_eq_true rfl) rfl dX7_move_341 rfl (fun r1 T1 q1 => ?_)
      obtain ⟨rfl, u1, o1⟩ := q1
      have m1 := u1.1.at hM (by decide)
      change st_ok _ (cpS 0 xs) _ _ at o1
      have l1 : (cpS 0 xs).length = xs.length + 1 := by simp only [cpS_len]; all_goals omega
      refine ks_zret rfl (ks_bo_z _) dX7_move_344 ?_
      exact mcR.yes u1 (by omega) (by omega) o1
    · refine ks_tableIn (off := 324) (tgt := 345) dX7_move_21 (by decide) (by decide) (by decide) (by decide) ?_
      simp (config := { decide := true }) only [if_true, if_false] at e0
      rw [e0]
      simp (config := { decide := true }) only [ndO, Nat.reduceSub, List.getD_cons_succ, List.getD_cons_zero, Nat.not_lt] at h1
      refine ks_aload_n dX7_move_345 rfl rfl ?_
      refine ks_getf (T := TX7) (kf := 3) kx_646 rfl in_X7 cl_X7 (by decide) hM rfl dX7_move_346 rfl ?_
      refine ks_iconst (x := nI 1) dX7_move_349 (by decide) rfl ?_
      refine ks_callV (n := 1) (M' := mX8_lift) (c_st_lift (d := d + 1) (c := 1) hO (gD (by omega))) hO.ob cl_X8 rfl kx_1679 kx_1680 kx_1681 kx_25 kx_1682 (by decide +kernel) rfl (by decide) (Nat.le_of_ble_eq_true rfl) rfl dX7_move_350 rfl (fun r1 T1 q1 => ?_)
      obtain ⟨rfl, u1, o1⟩ := q1
      have m1 := u1.1.at hM (by decide)
      change st_ok _ (lfS 1 xs) _ _ at o1
      have l1 : (lfS 1 xs).length = xs.length := (lfS_len (by omega)).trans (by omega)
      refine ks_if_eqZ (tgt := 371) dX7_move_353 (by decide) rfl (fun g0 => ?_) (fun g0 => ?_)
      · exact absurd g0 (by decide)
      · refine ks_aload_n dX7_move_356 rfl rfl ?_
        refine ks_getf (T := TX7) (kf := 3) kx_646 rfl in_X7 cl_X7 (by decide) m1 rfl dX7_move_357 rfl ?_
        refine ks_iconst (x := nI 1) dX7_move_360 (by decide) rfl ?_
        refine ks_callV (n := 1) (M' := mX8_drop) (c_st_drop (d := d + 2) (c := 1) o1 (by omega)) o1.ob cl_X8 rfl kx_1575 kx_1576 kx_1577 kx_25 kx_1578 (by decide +kernel) rfl (by decide) (Nat.le_of_ble_eq_true rfl) rfl dX7_move_361 rfl (fun r2 T2 q2 => ?_)
        obtain ⟨rfl, u2, o2⟩ := q2
        have m2 := u2.1.at m1 (by decide)
        change st_ok _ ((lfS 1 xs).drop 1) _ _ at o2
        refine ks_if_eqZ (tgt := 371) dX7_move_364 (by decide) rfl (fun g0 => ?_) (fun g0 => ?_)
        · exact absurd g0 (by decide)
        · refine ks_iconst (x := nI 1) dX7_move_367 (by decide) rfl ?_
          refine ks_goto (tgt := 372) dX7_move_368 (by decide) ?_
          refine ks_zret rfl rfl dX7_move_372 ?_
          exact mcR.yes (u1.trans u2 (by omega)) (by omega) (by omega) o2
    · refine ks_tableIn (off := 352) (tgt := 373) dX7_move_21 (by decide) (by decide) (by decide) (by decide) ?_
      simp (config := { decide := true }) only [if_true, if_false] at e0
      rw [e0]
      simp (config := { decide := true }) only [ndO, Nat.reduceSub, List.getD_cons_succ, List.getD_cons_zero, Nat.not_lt] at h1
      refine ks_aload_n dX7_move_373 rfl rfl ?_
      refine ks_getf (T := TX7) (kf := 3) kx_646 rfl in_X7 cl_X7 (by decide) hM rfl dX7_move_374 rfl ?_
      refine ks_iconst (x := nI 1) dX7_move_377 (by decide) rfl ?_
      refine ks_callV (n := 1) (M' := mX8_copy) (c_st_copy (d := d + 2) (c := 1) hO (gD (by omega)) (by omega)) hO.ob cl_X8 rfl kx_1675 kx_1676 kx_1677 kx_25 kx_1678 (by decide +kernel) rfl (by decide) (Nat.le_of_ble_eq_true rfl) rfl dX7_move_378 rfl (fun r1 T1 q1 => ?_)
      obtain ⟨rfl, u1, o1⟩ := q1
      have m1 := u1.1.at hM (by decide)
      change st_ok _ (cpS 1 xs) _ _ at o1
      have l1 : (cpS 1 xs).length = xs.length + 1 := by simp only [cpS_len]; all_goals omega
      refine ks_zret rfl (ks_bo_z _) dX7_move_381 ?_
      exact mcR.yes u1 (by omega) (by omega) o1
    · refine ks_tableIn (off := 361) (tgt := 382) dX7_move_21 (by decide) (by decide) (by decide) (by decide) ?_
      simp (config := { decide := true }) only [if_true, if_false] at e0
      rw [e0]
      simp (config := { decide := true }) only [ndO, Nat.reduceSub, List.getD_cons_succ, List.getD_cons_zero, Nat.not_lt] at h1
      refine ks_aload_n dX7_move_382 rfl rfl ?_
      refine ks_iload_n dX7_move_383 rfl rfl ?_
      refine ks_bipush (x := nI 121) dX7_move_384 (by decide) rfl ?_
      refine ks_icmp_neN (tgt := 393) (by decide) (by decide) dX7_move_386 (by decide) rfl (fun g0 => ?_) (fun g0 => ?_)
      · exact absurd g0 (by decide)
      · refine ks_iconst (x := nI 1) dX7_move_389 (by decide) rfl ?_
        refine ks_goto (tgt := 394) dX7_move_390 (by decide) ?_
        refine ks_callV (n := 1) (M' := mX7_moveByNumber) (c_mc_moveByNumber (d := d) (cp := true) hM hO (by omega)) hM cl_X7 rfl kx_1683 kx_1685 kxp_45 kx_24 kx_1686 (by decide +kernel) rfl (by decide) (Nat.le_of_ble_eq_true rfl) rfl dX7_move_394 rfl (fun r3 S3 h3 => ?_)
        have b3 := mcR.bool h3
        obtain ⟨t3, rfl⟩ := b3
        refine ks_zret rfl (ks_bo_z _) dX7_move_397 ?_
        exact mcR.mono h3 (by omega)
    · refine ks_tableIn (off := 361) (tgt := 382) dX7_move_21 (by decide) (by decide) (by decide) (by decide) ?_
      simp (config := { decide := true }) only [if_true, if_false] at e0
      rw [e0]
      simp (config := { decide := true }) only [ndO, Nat.reduceSub, List.getD_cons_succ, List.getD_cons_zero, Nat.not_lt] at h1
      refine ks_aload_n dX7_move_382 rfl rfl ?_
      refine ks_iload_n dX7_move_383 rfl rfl ?_
      refine ks_bipush (x := nI 121) dX7_move_384 (by decide) rfl ?_
      refine ks_icmp_neN (tgt := 393) (by decide) (by decide) dX7_move_386 (by decide) rfl (fun g0 => ?_) (fun g0 => ?_)
      · refine ks_iconst (x := nI 0) dX7_move_393 (by decide) rfl ?_
        refine ks_callV (n := 1) (M' := mX7_moveByNumber) (c_mc_moveByNumber (d := d) (cp := false) hM hO (by omega)) hM cl_X7 rfl kx_1683 kx_1685 kxp_45 kx_24 kx_1686 (by decide +kernel) rfl (by decide) (Nat.le_of_ble_eq_true rfl) rfl dX7_move_394 rfl (fun r3 S3 h3 => ?_)
        have b3 := mcR.bool h3
        obtain ⟨t3, rfl⟩ := b3
        refine ks_zret rfl (ks_bo_z _) dX7_move_397 ?_
        exact mcR.mono h3 (by omega)
      · exact absurd g0 (by decide)
    · refine ks_tableIn (off := 377) (tgt := 398) dX7_move_21 (by decide) (by decide) (by decide) (by decide) ?_
      simp (config := { decide := true }) only [if_true, if_false] at e0
      rw [e0]
      simp (config := { decide := true }) only [ndO, Nat.reduceSub, List.getD_cons_succ, List.getD_cons_zero, Nat.not_lt] at h1
      refine ks_aload_n dX7_move_398 rfl rfl ?_
      refine ks_getf (T := TX7) (kf := 3) kx_646 rfl in_X7 cl_X7 (by decide) hM rfl dX7_move_399 rfl ?_
      refine ks_iconst (x := nI 2) dX7_move_402 (by decide) rfl ?_
      refine ks_callV (n := 1) (M' := mX8_lift) (c_st_lift (d := d + 1) (c := 2) hO (gD (by omega))) hO.ob cl_X8 rfl kx_1679 kx_1680 kx_1681 kx_25 kx_1682 (by decide +kernel) rfl (by decide) (Nat.le_of_ble_eq_true rfl) rfl dX7_move_403 rfl (fun r1 T1 q1 => ?_)
      obtain ⟨rfl, u1, o1⟩ := q1
      have m1 := u1.1.at hM (by decide)
      change st_ok _ (lfS 2 xs) _ _ at o1
      have l1 : (lfS 2 xs).length = xs.length := (lfS_len (by omega)).trans (by omega)
      refine ks_zret rfl (ks_bo_z _) dX7_move_406 ?_
      exact mcR.yes u1 (by omega) (by omega) o1
    · refine ks_tableIn (off := 386) (tgt := 407) dX7_move_21 (by decide) (by decide) (by decide) (by decide) ?_
      simp (config := { decide := true }) only [if_true, if_false] at e0
      rw [e0]
      simp (config := { decide := true }) only [ndO, Nat.reduceSub, List.getD_cons_succ, List.getD_cons_zero, Nat.not_lt] at h1
      refine ks_aload_n dX7_move_407 rfl rfl ?_
      refine ks_getf (T := TX7) (kf := 3) kx_646 rfl in_X7 cl_X7 (by decide) hM rfl dX7_move_408 rfl ?_
      refine ks_iconst (x := nI 1) dX7_move_411 (by decide) rfl ?_
      refine ks_callV (n := 1) (M' := mX8_lift) (c_st_lift (d := d + 1) (c := 1) hO (gD (by omega))) hO.ob cl_X8 rfl kx_1679 kx_1680 kx_1681 kx_25 kx_1682 (by decide +kernel) rfl (by decide) (Nat.le_of_ble_eq_true rfl) rfl dX7_move_412 rfl (fun r1 T1 q1 => ?_)
      obtain ⟨rfl, u1, o1⟩ := q1
      have m1 := u1.1.at hM (by decide)
      change st_ok _ (lfS 1 xs) _ _ at o1
      have l1 : (lfS 1 xs).length = xs.length := (lfS_len (by omega)).trans (by omega)
      refine ks_zret rfl (ks_bo_z _) dX7_move_415 ?_
      exact mcR.yes u1 (by omega) (by omega) o1
    · refine ks_tableOut (tgt := 416) dX7_move_21 ((show ∀ q, q < 256 → (q < 107 ∨ 124 < q) → ((nI q).toInt < 107 ∨ 124 < (nI q).toInt) by decide +kernel) _ hop hsw) (by decide) ?_
      obtain rfl : op = 125 := by omega
      simp (config := { decide := true }) only [if_true, if_false] at e0
      rw [e0]
      simp (config := { decide := true }) only [ndO, Nat.reduceSub, List.getD_cons_succ, List.getD_cons_zero, Nat.not_lt] at h1
      refine ks_aload_n dX7_move_416 rfl rfl ?_
      refine ks_getf (T := TX7) (kf := 3) kx_646 rfl in_X7 cl_X7 (by decide) hM rfl dX7_move_417 rfl ?_
      refine ks_iconst (x := nI 1) dX7_move_420 (by decide) rfl ?_
      refine ks_callV (n := 1) (M' := mX8_lift) (c_st_lift (d := d + 1) (c := 1) hO (gD (by omega))) hO.ob cl_X8 rfl kx_1679 kx_1680 kx_1681 kx_25 kx_1682 (by decide +kernel) rfl (by decide) (Nat.le_of_ble_eq_true rfl) rfl dX7_move_421 rfl (fun r1 T1 q1 => ?_)
      obtain ⟨rfl, u1, o1⟩ := q1
      have m1 := u1.1.at hM (by decide)
      change st_ok _ (lfS 1 xs) _ _ at o1
      have l1 : (lfS 1 xs).length = xs.length := (lfS_len (by omega)).trans (by omega)
      refine ks_if_eqZ (tgt := 442) dX7_move_424 (by decide) rfl (fun g0 => ?_) (fun g0 => ?_)
      · exact absurd g0 (by decide)
      · refine ks_aload_n dX7_move_427 rfl rfl ?_
        refine ks_getf (T := TX7) (kf := 3) kx_646 rfl in_X7 cl_X7 (by decide) m1 rfl dX7_move_428 rfl ?_
        refine ks_iconst (x := nI 1) dX7_move_431 (by decide) rfl ?_
        refine ks_callV (n := 1) (M' := mX8_copy) (c_st_copy (d := d + 2) (c := 1) o1 (gD (by omega)) (by omega)) o1.ob cl_X8 rfl kx_1675 kx_1676 kx_1677 kx_25 kx_1678 (by decide +kernel) rfl (by decide) (Nat.le_of_ble_eq_true rfl) rfl dX7_move_432 rfl (fun r2 T2 q2 => ?_)
        obtain ⟨rfl, u2, o2⟩ := q2
        have m2 := u2.1.at m1 (by decide)
        change st_ok _ (cpS 1 (lfS 1 xs)) _ _ at o2
        have l2 : (cpS 1 (lfS 1 xs)).length = xs.length + 1 := by simp only [cpS_len]; all_goals omega
        refine ks_if_eqZ (tgt := 442) dX7_move_435 (by decide) rfl (fun g0 => ?_) (fun g0 => ?_)
        · exact absurd g0 (by decide)
        · refine ks_iconst (x := nI 1) dX7_move_438 (by decide) rfl ?_
          refine ks_goto (tgt := 443) dX7_move_439 (by decide) ?_
          refine ks_zret rfl rfl dX7_move_443 ?_
          exact mcR.yes (u1.trans u2 (by omega)) (by omega) (by omega) o2
  · have en : ndF (op - 107) = ndO op := by unfold ndF; rw [show 107 + (op - 107) = op by omega]
    rw [en] at h1
    refine ks_iconst (x := nI 0) dX7_move_18 (by decide) rfl ?_
    refine ks_zret rfl rfl dX7_move_19 ?_
    unfold mvS
    rw [if_pos (by omega)]
    exact mcR.no (ks_up.rf _ _) hO
