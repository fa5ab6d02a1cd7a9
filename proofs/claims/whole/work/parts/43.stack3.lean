/-! STACK: numbers and flags -/
theorem bytL_ext {f h : Nat → Nat} {i j n m : Nat} : bytL f i n = bytL h j m ↔ n = m ∧ ∀ q, q < n → f (i + q) = h (j + q) := by
  constructor
  · intro e
    have e1 : n = m := by have := congrArg List.length e; rwa [bytL_len, bytL_len] at this
    subst e1
    refine ⟨rfl, fun q hq => ?_⟩
    rw [← bytL_at f i n hq, ← bytL_at h j n hq, e]
  · rintro ⟨rfl, e⟩
    exact bytL_congr e
theorem st_ok.dig {S : ks_S} {xs ys : List (List Nat)} {u : Nat} {g : Nat → Nat} (h : st_ok S xs ys u) (hg : kO g) : st_ok (ks_set S 35 (kB 8 g)) xs ys u := by
  obtain ⟨n, o, ar, dt, fa, fc, oa, oc, ⟨a1, a2, a3, a4, a5, a6, a7, a8, a9, a10⟩, b⟩ := h
  exact ⟨n, o, ar, g, fa, fc, oa, oc, ⟨(ks_set_ne _ _ (by decide)).trans a1, (ks_set_ne _ _ (by decide)).trans a2, (ks_set_ne _ _ (by decide)).trans a3, (ks_set_ne _ _ (by decide)).trans a4, (ks_set_ne _ _ (by decide)).trans a5, (ks_set_ne _ _ (by decide)).trans a6, ks_set_same _ _ _, a8, hg, a10⟩, b⟩
def flagL (b : Bool) : List Nat := if b then [1] else []
set_option maxRecDepth 100000 in
set_option maxHeartbeats 2000000 in
theorem c_st_areTopTwoSame {l : Launch} {G : ks_G} {d : Nat} {S : ks_S} {xs ys : List (List Nat)} {u : Nat} (hO : st_ok S xs ys u) {x y : List Nat} {r : List (List Nat)} (hc : xs = x :: y :: r) : ks_P l G yX8_areTopTwoSame mX8_areTopTwoSame d [.ref 29] S (fun z S' => z = some (.int (ks_bo (decide (x = y)))) ∧ S' = S) := by
  obtain ⟨n, o, ar, dt, fa, fc, oa, oc, hX, hx, hy⟩ := hO
  have b1 := hX.2.2.2.2.2.2.2.2.2.1
  have b2 := hX.2.2.2.2.2.2.2.2.2.2.1
  have b3 := hX.2.2.2.2.2.2.2.2.2.2.2.1
  have lx : xs.length = n := by rw [hx, stE_len]
  have ly : ys.length = o := by rw [hy, stE_len]
  obtain ⟨n, rfl⟩ : ∃ q, n = q + 2 := ⟨n - 2, by rw [hc] at lx; simp at lx; omega⟩
  rw [hx, stE, stE] at hc
  injection hc with hc1 hc2
  injection hc2 with hc2 hc3
  subst hc1 hc2
  have f1 := hX.2.2.2.2.2.2.2.2.2.2.2.2.1 n (by omega)
  have f2 := hX.2.2.2.2.2.2.2.2.2.2.2.2.1 (n + 1) (by omega)
  have loop : fc n = fc (n + 1) → ∀ c i, i + c = fc (n + 1) → (∀ j, j < i → ar (fa (n + 1) + j) = ar (fa n + j)) → ks_X l G mX8_areTopTwoSame d 31 [(0, .ref 29), (1, .int (nI (fc (n + 1)))), (2, .int (nI i))] [] S (fun z S' => z = some (.int (ks_bo (decide (bytL ar (fa (n + 1)) (fc (n + 1)) = bytL ar (fa n) (fc n))))) ∧ S' = S) := by
    intro he c
    induction c with
    | zero =>
      intro i hi hz
      refine ks_iload_n dX8_areTopTwoSame_31 rfl rfl ?_
      refine ks_iload_n dX8_areTopTwoSame_32 rfl rfl ?_
      refine ks_icmp_geN (tgt := 83) (by omega) (by omega) dX8_areTopTwoSame_33 (by decide) rfl (fun hc => ?_) (fun hc => ?_)
      · refine ks_iconst (x := nI 1) dX8_areTopTwoSame_83 (by decide) rfl ?_
        refine ks_zret rfl rfl dX8_areTopTwoSame_84 ?_
        refine ⟨?_, rfl⟩
        rw [decide_eq_true (bytL_ext.mpr ⟨he.symm, fun q hq => hz q (by omega)⟩)]
        rfl
      · exact absurd (show fc (n + 1) ≤ i by omega) hc
    | succ c ih =>
      intro i hi hz
      refine ks_iload_n dX8_areTopTwoSame_31 rfl rfl ?_
      refine ks_iload_n dX8_areTopTwoSame_32 rfl rfl ?_
      refine ks_icmp_geN (tgt := 83) (by omega) (by omega) dX8_areTopTwoSame_33 (by decide) rfl (fun hc => ?_) (fun hc => ?_)
      · exact absurd hc (by omega)
      · refine ks_aload_n dX8_areTopTwoSame_36 rfl rfl ?_
        refine ks_getf (T := TX8) (kf := 0) kx_608 rfl in_X8 cl_X8 (by decide) hX.1 rfl dX8_areTopTwoSame_37 rfl ?_
        refine ks_aload_n dX8_areTopTwoSame_40 rfl rfl ?_
        refine ks_getf (T := TX8) (kf := 1) kx_610 rfl in_X8 cl_X8 (by decide) hX.1 rfl dX8_areTopTwoSame_41 rfl ?_
        refine ks_aload_n dX8_areTopTwoSame_44 rfl rfl ?_
        refine ks_getf (T := TX8) (kf := 3) kx_614 rfl in_X8 cl_X8 (by decide) hX.1 rfl dX8_areTopTwoSame_45 rfl ?_
        refine ks_iconst (x := nI 1) dX8_areTopTwoSame_48 (by decide) rfl ?_
        refine ks_subN (by omega) dX8_areTopTwoSame_49 rfl ?_
        refine ks_ti (y := nI (n + 1)) rfl ?_
        refine ks_ialdN (i := n + 1) hX.2.2.1 rfl (by omega) (by decide) dX8_areTopTwoSame_50 rfl ?_
        refine ks_iload_n dX8_areTopTwoSame_51 rfl rfl ?_
        refine ks_addN dX8_areTopTwoSame_52 rfl ?_
        refine ks_baldB (i := fa (n + 1) + i) hX.2.1 rfl (by omega) (by decide) dX8_areTopTwoSame_53 rfl ?_
        refine ks_aload_n dX8_areTopTwoSame_54 rfl rfl ?_
        refine ks_getf (T := TX8) (kf := 0) kx_608 rfl in_X8 cl_X8 (by decide) hX.1 rfl dX8_areTopTwoSame_55 rfl ?_
        refine ks_aload_n dX8_areTopTwoSame_58 rfl rfl ?_
        refine ks_getf (T := TX8) (kf := 1) kx_610 rfl in_X8 cl_X8 (by decide) hX.1 rfl dX8_areTopTwoSame_59 rfl ?_
        refine ks_aload_n dX8_areTopTwoSame_62 rfl rfl ?_
        refine ks_getf (T := TX8) (kf := 3) kx_614 rfl in_X8 cl_X8 (by decide) hX.1 rfl dX8_areTopTwoSame_63 rfl ?_
        refine ks_iconst (x := nI 2) dX8_areTopTwoSame_66 (by decide) rfl ?_
        refine ks_subN (by omega) dX8_areTopTwoSame_67 rfl ?_
        refine ks_ti (y := nI (n)) rfl ?_
        refine ks_ialdN (i := n) hX.2.2.1 rfl (by omega) (by decide) dX8_areTopTwoSame_68 rfl ?_
        refine ks_iload_n dX8_areTopTwoSame_69 rfl rfl ?_
        refine ks_addN dX8_areTopTwoSame_70 rfl ?_
        refine ks_baldB (i := fa n + i) hX.2.1 rfl (by omega) (by decide) dX8_areTopTwoSame_71 rfl ?_
        refine ks_icmp_eqY (tgt := 77) (hX.2.2.2.2.2.2.2.1 _) (hX.2.2.2.2.2.2.2.1 _) dX8_areTopTwoSame_72 (by decide) rfl (fun hd => ?_) (fun hd => ?_)
        · refine ks_incN (c := 1) (e := i + 1) dX8_areTopTwoSame_77 rfl (by decide) rfl (by decide) rfl ?_
          refine ks_sub [(2, _), (0, _), (1, _)] rfl ?_
          refine ks_goto (tgt := 31) dX8_areTopTwoSame_80 (by decide) ?_
          exact ks_sub [(0, _), (1, _), (2, _)] rfl (ih (i + 1) (by omega) (fun j hj => by
            rcases Nat.lt_succ_iff_lt_or_eq.mp hj with h | h
            · exact hz j h
            · rw [h]; exact hd))
        · refine ks_iconst (x := nI 0) dX8_areTopTwoSame_75 (by decide) rfl ?_
          refine ks_zret rfl rfl dX8_areTopTwoSame_76 ?_
          refine ⟨?_, rfl⟩
          rw [decide_eq_false (fun h => hd ((bytL_ext.mp h).2 i (by omega)))]
          rfl
  refine ks_of (by decide) rfl rfl (Nat.le_of_ble_eq_true rfl) ?_
  show ks_X l G mX8_areTopTwoSame d 0 [(0, .ref 29)] [] S _
  refine ks_aload_n dX8_areTopTwoSame_0 rfl rfl ?_
  refine ks_getf (T := TX8) (kf := 2) kx_612 rfl in_X8 cl_X8 (by decide) hX.1 rfl dX8_areTopTwoSame_1 rfl ?_
  refine ks_aload_n dX8_areTopTwoSame_4 rfl rfl ?_
  refine ks_getf (T := TX8) (kf := 3) kx_614 rfl in_X8 cl_X8 (by decide) hX.1 rfl dX8_areTopTwoSame_5 rfl ?_
  refine ks_iconst (x := nI 1) dX8_areTopTwoSame_8 (by decide) rfl ?_
  refine ks_subN (by omega) dX8_areTopTwoSame_9 rfl ?_
  refine ks_ti (y := nI (n + 1)) rfl ?_
  refine ks_ialdN (i := n + 1) hX.2.2.2.1 rfl (by omega) (by decide) dX8_areTopTwoSame_10 rfl ?_
  refine ks_istore_n dX8_areTopTwoSame_11 (by decide) rfl ?_
  refine ks_sub [(1, _), (0, _)] rfl ?_
  refine ks_aload_n dX8_areTopTwoSame_12 rfl rfl ?_
  refine ks_getf (T := TX8) (kf := 2) kx_612 rfl in_X8 cl_X8 (by decide) hX.1 rfl dX8_areTopTwoSame_13 rfl ?_
  refine ks_aload_n dX8_areTopTwoSame_16 rfl rfl ?_
  refine ks_getf (T := TX8) (kf := 3) kx_614 rfl in_X8 cl_X8 (by decide) hX.1 rfl dX8_areTopTwoSame_17 rfl ?_
  refine ks_iconst (x := nI 2) dX8_areTopTwoSame_20 (by decide) rfl ?_
  refine ks_subN (by omega) dX8_areTopTwoSame_21 rfl ?_
  refine ks_ti (y := nI (n)) rfl ?_
  refine ks_ialdN (i := n) hX.2.2.2.1 rfl (by omega) (by decide) dX8_areTopTwoSame_22 rfl ?_
  refine ks_iload_n dX8_areTopTwoSame_23 rfl rfl ?_
  refine ks_icmp_eqN (tgt := 29) (by omega) (by omega) dX8_areTopTwoSame_24 (by decide) rfl (fun he => ?_) (fun he => ?_)
  · refine ks_iconst (x := nI 0) dX8_areTopTwoSame_29 (by decide) rfl ?_
    refine ks_istore_n dX8_areTopTwoSame_30 (by decide) rfl ?_
    refine ks_sub [(2, _), (0, _), (1, _)] rfl ?_
    exact ks_sub [(0, _), (1, _), (2, _)] rfl (loop he (fc (n + 1)) 0 (by omega) (fun j hj => absurd hj (Nat.not_lt_zero j)))
  · refine ks_iconst (x := nI 0) dX8_areTopTwoSame_27 (by decide) rfl ?_
    refine ks_zret rfl rfl dX8_areTopTwoSame_28 ?_
    refine ⟨?_, rfl⟩
    rw [decide_eq_false (fun h => he (bytL_ext.mp h).1.symm)]
    rfl
set_option maxRecDepth 100000 in
set_option maxHeartbeats 2000000 in
theorem c_st_addFlag {l : Launch} {G : ks_G} {d : Nat} {S : ks_S} {xs ys : List (List Nat)} {u : Nat} {b : Bool} (hO : st_ok S xs ys u) (hl : xs.length < 1004) (hu : u + 1 ≤ 24096) : ks_P l G yX8_addFlag mX8_addFlag (d + 2) [.ref 29, .int (ks_bo b)] S (fun z S' => z = some (.int (ks_bo true)) ∧ stU S S' u ∧ st_ok S' (flagL b :: xs) ys (u + (flagL b).length)) := by
  obtain ⟨n, o, ar, dt, fa, fc, oa, oc, hX, hx, hy⟩ := id hO
  refine ks_of (by decide) rfl rfl (Nat.le_of_ble_eq_true rfl) ?_
  show ks_X l G mX8_addFlag (d + 2) 0 [(0, .ref 29), (1, .int (ks_bo b))] [] S _
  refine ks_aload_n dX8_addFlag_0 rfl rfl ?_
  refine ks_getf (T := TX8) (kf := 8) kx_620 rfl in_X8 cl_X8 (by decide) hX.1 rfl dX8_addFlag_1 rfl ?_
  refine ks_iconst (x := nI 0) dX8_addFlag_4 (by decide) rfl ?_
  refine ks_iconst (x := nI 1) dX8_addFlag_5 (by decide) rfl ?_
  refine ks_bastB (i := 0) (c := 1) hX.2.2.2.2.2.2.1 rfl (by decide) (by decide) (ks_by_nI _) dX8_addFlag_6 rfl ?_
  have hg2 : kO (va_up dt 0 1) := kO_up hX.2.2.2.2.2.2.2.2.1 (by decide)
  have hO2 := hO.dig hg2
  have hu2 : stU S (ks_set S 35 (kB 8 (va_up dt 0 1))) u := stU.of (ks_up_set _ _ (by decide))
  refine ks_aload_n dX8_addFlag_7 rfl rfl ?_
  refine ks_aload_n dX8_addFlag_8 rfl rfl ?_
  refine ks_getf (T := TX8) (kf := 8) kx_620 rfl in_X8 cl_X8 (by decide) ((ks_set_ne _ _ (by decide)).trans hX.1) rfl dX8_addFlag_9 rfl ?_
  refine ks_iconst (x := nI 0) dX8_addFlag_12 (by decide) rfl ?_
  refine ks_iload_n dX8_addFlag_13 rfl rfl ?_
  refine ks_if_eqZ (tgt := 21) dX8_addFlag_14 (by decide) rfl (fun hz => ?_) (fun hz => ?_)
  · subst hz
    refine ks_iconst (x := nI 0) dX8_addFlag_21 (by decide) rfl ?_
    refine ks_callV (n := 3) (M' := mX8_add) (c_st_add (d := d) (s := 0) (c := 0) hO2 (ks_set_same _ _ _) hg2 (by decide) (by decide) hl (by omega) (by decide)) ((ks_set_ne _ _ (by decide)).trans hX.1) cl_X8 rfl kx_1647 kx_1580 kx_1581 kx_25 kx_1582 (by decide +kernel) rfl (by decide) (Nat.le_of_ble_eq_true rfl) rfl dX8_addFlag_22 rfl (fun r3 S3 h3 => ?_)
    obtain ⟨rfl, u3, h4⟩ := h3
    refine ks_zret rfl (ks_bo_z _) dX8_addFlag_25 ?_
    exact ⟨rfl, hu2.trans u3 (Nat.le_refl _), h4⟩
  · subst hz
    refine ks_iconst (x := nI 1) dX8_addFlag_17 (by decide) rfl ?_
    refine ks_goto (tgt := 22) dX8_addFlag_18 (by decide) ?_
    refine ks_callV (n := 3) (M' := mX8_add) (c_st_add (d := d) (s := 0) (c := 1) hO2 (ks_set_same _ _ _) hg2 (by decide) (by decide) hl (by omega) (by decide)) ((ks_set_ne _ _ (by decide)).trans hX.1) cl_X8 rfl kx_1647 kx_1580 kx_1581 kx_25 kx_1582 (by decide +kernel) rfl (by decide) (Nat.le_of_ble_eq_true rfl) rfl dX8_addFlag_22 rfl (fun r3 S3 h3 => ?_)
    obtain ⟨rfl, u3, h4⟩ := h3
    refine ks_zret rfl (ks_bo_z _) dX8_addFlag_25 ?_
    exact ⟨rfl, hu2.trans u3 (Nat.le_refl _), h4⟩
def nsN (x : Nat) : Nat := if 0 < tg_len x 8 ∧ 128 ≤ x / 256 ^ (tg_len x 8 - 1) % 256 then tg_len x 8 + 1 else tg_len x 8
/-- a number as an element: its magnitude, and whether it is below 0 -/
def numS (neg : Bool) (x : Nat) : List Nat := (List.range (nsN x)).map (fun j => x / 256 ^ j % 256 + (if neg = true ∧ j + 1 = nsN x then 128 else 0))
theorem tg_len_is {x : Nat} : ∀ {n i : Nat}, x < 256 ^ i → (i = 0 ∨ 256 ^ (i - 1) ≤ x) → i ≤ n → tg_len x n = i
  | 0, i, h1, h2, h3 => by show 0 = i; omega
  | n + 1, i, h1, h2, h3 => by
    unfold tg_len
    by_cases e : x < 256 ^ n
    · rw [if_pos e]
      rcases Nat.lt_or_eq_of_le h3 with h4 | h4
      · exact tg_len_is h1 h2 (Nat.le_of_lt_succ h4)
      · subst h4
        rcases h2 with h2 | h2
        · omega
        · rw [Nat.add_sub_cancel] at h2; omega
    · rw [if_neg e]
      rcases Nat.lt_or_eq_of_le h3 with h4 | h4
      · exact absurd (Nat.lt_of_lt_of_le h1 (Nat.pow_le_pow_right (by decide) (Nat.le_of_lt_succ h4))) e
      · exact h4.symm
theorem ns_or : ∀ c, c < 128 → ks_by (sb_b c ||| (-128)) = c + 128 := by decide +kernel
def numZ (neg : Bool) (x : Nat) : Int64 := if neg then -(lN x) else lN x
theorem numZ_neg {x : Nat} (h0 : 0 < x) (h : x < 2 ^ 62) : -(lN x) < lN 0 ∧ -(-(lN x)) = lN x := by
  refine ⟨?_, Int64.neg_neg⟩
  apply Int64.lt_iff_toInt_lt.mpr
  have e1 : (lN x).toInt = x := pk_lT (by omega)
  have e2 : (-(lN x)).toInt = -(x : Int) := by
    rw [Int64.toInt_neg, e1]
    unfold Int.bmod
    simp only
    split <;> omega
  rw [e2]
  have e3 : (lN 0).toInt = 0 := rfl
  omega
set_option maxRecDepth 100000 in
set_option maxHeartbeats 2000000 in
theorem l_an99 {l : Launch} {G : ks_G} {d : Nat} {S : ks_S} {xs ys : List (List Nat)} {u x : Nat} {neg : Bool} (hO : st_ok S xs ys u) (hx48 : x < 2 ^ 48) (hneg : neg = true → 0 < x) (hl : xs.length < 1004) (hu : u + nsN x ≤ 24096) {v : Int64} {q : Nat} (hq : q = nsN x) (hq8 : q ≤ 8) : ∀ (S1 : ks_S) (dt : Nat → Nat), stU S S1 u → st_ok S1 xs ys u → S1.2.2 35 = some (kB 8 dt) → kO dt → (∀ j, j < q → dt j = x / 256 ^ j % 256 + (if neg = true ∧ j + 1 = nsN x then 128 else 0)) → ks_X l G mX8_addNumber (d + 2) 99 [(0, .ref 29), (1, .long v), (5, .int (nI q))] [] S1 (fun z S' => z = some (.int (ks_bo true)) ∧ stU S S' u ∧ st_ok S' (numS neg x :: xs) ys (u + (numS neg x).length)) := by
  intro S1 dt hu1 hO1 h35 hg hd
  obtain ⟨n, o, ar, dt0, fa, fc, oa, oc, hX, hx, hy⟩ := id hO1
  refine ks_aload_n dX8_addNumber_99 rfl rfl ?_
  refine ks_aload_n dX8_addNumber_100 rfl rfl ?_
  refine ks_getf (T := TX8) (kf := 8) kx_620 rfl in_X8 cl_X8 (by decide) hX.1 rfl dX8_addNumber_101 rfl ?_
  refine ks_iconst (x := nI 0) dX8_addNumber_104 (by decide) rfl ?_
  refine ks_iload dX8_addNumber_105 rfl rfl ?_
  refine ks_callV (n := 3) (M' := mX8_add) (c_st_add (d := d) (s := 0) (c := q) hO1 h35 hg (by omega) (by decide) hl (by omega) (by decide)) hX.1 cl_X8 rfl kx_1647 kx_1580 kx_1581 kx_25 kx_1582 (by decide +kernel) rfl (by decide) (Nat.le_of_ble_eq_true rfl) rfl dX8_addNumber_107 rfl (fun r3 S3 h3 => ?_)
  obtain ⟨rfl, u3, h4⟩ := h3
  refine ks_zret rfl (ks_bo_z _) dX8_addNumber_110 ?_
  have e1 : bytL dt 0 q = numS neg x := by
    unfold bytL numS
    rw [hq]
    apply List.map_congr_left
    intro j hj
    rw [Nat.zero_add]
    exact hd j (by rw [hq]; exact List.mem_range.mp hj)
  rw [e1, show q = (numS neg x).length by rw [← e1, bytL_len]] at h4
  exact ⟨rfl, hu1.trans u3 (Nat.le_refl _), h4⟩
set_option maxRecDepth 100000 in
set_option maxHeartbeats 2000000 in
theorem l_an78 {l : Launch} {G : ks_G} {d : Nat} {S : ks_S} {xs ys : List (List Nat)} {u x : Nat} {neg : Bool} (hO : st_ok S xs ys u) (hx48 : x < 2 ^ 48) (hneg : neg = true → 0 < x) (hl : xs.length < 1004) (hu : u + nsN x ≤ 24096) {q : Nat} (hq : q = nsN x) (hq8 : q ≤ 8) (hq0 : 0 < x → 0 < q) : ∀ (S1 : ks_S) (dt : Nat → Nat), stU S S1 u → st_ok S1 xs ys u → S1.2.2 35 = some (kB 8 dt) → kO dt → (∀ j, j < q → dt j = x / 256 ^ j % 256) → (0 < q → dt (q - 1) < 128) → ks_X l G mX8_addNumber (d + 2) 78 [(0, .ref 29), (1, .long (numZ neg x)), (5, .int (nI q))] [] S1 (fun z S' => z = some (.int (ks_bo true)) ∧ stU S S' u ∧ st_ok S' (numS neg x :: xs) ys (u + (numS neg x).length)) := by
  intro S1 dt hu1 hO1 h35 hg hd ht
  obtain ⟨n, o, ar, dt0, fa, fc, oa, oc, hX, hx, hy⟩ := id hO1
  refine ks_lload_n dX8_addNumber_78 rfl rfl ?_
  refine ks_lconst (x := lN 0) dX8_addNumber_79 (by decide) rfl ?_
  refine ks_lif_ge (tgt := 99) dX8_addNumber_80 rfl dX8_addNumber_81 (by decide) rfl (fun hv => ?_) (fun hv => ?_)
  · have hn : neg = false := by
      cases neg with
      | false => rfl
      | true => exact absurd (numZ_neg (hneg rfl) (by omega)).1 (Int64.not_lt.mpr hv)
    subst hn
    exact l_an99 hO hx48 hneg hl hu hq hq8 S1 dt hu1 hO1 h35 hg (fun j hj => by rw [hd j hj, if_neg (by simp)]; rfl)
  · have hn : neg = true := by
      cases neg with
      | true => rfl
      | false =>
        refine absurd ?_ hv
        exact (pk_lLE (by decide) (by omega)).mpr (Nat.zero_le x)
    subst hn
    have q0 := hq0 (hneg rfl)
    have t0 := ht q0
    refine ks_aload_n dX8_addNumber_84 rfl rfl ?_
    refine ks_getf (T := TX8) (kf := 8) kx_620 rfl in_X8 cl_X8 (by decide) hX.1 rfl dX8_addNumber_85 rfl ?_
    refine ks_iload dX8_addNumber_88 rfl rfl ?_
    refine ks_iconst (x := nI 1) dX8_addNumber_90 (by decide) rfl ?_
    refine ks_subN (by omega) dX8_addNumber_91 rfl ?_
    refine ks_dup2_11 dX8_addNumber_92 rfl rfl rfl ?_
    refine ks_baldB (i := q - 1) h35 rfl (by omega) (by decide) dX8_addNumber_93 rfl ?_
    refine ks_bipush (x := (-128)) dX8_addNumber_94 (by decide) rfl ?_
    refine ks_ior dX8_addNumber_96 rfl ?_
    refine ks_i2b dX8_addNumber_97 rfl ?_
    refine ks_bastB (i := q - 1) (c := dt (q - 1) + 128) h35 rfl (by omega) (by decide) ((ks_by_i8 _).trans (ns_or _ t0)) dX8_addNumber_98 rfl ?_
    refine ks_sub [(0, _), (1, _), (5, _)] rfl (l_an99 hO hx48 hneg hl hu hq hq8 _ _ (hu1.trans (stU.of (ks_up_set _ _ (by decide))) (Nat.le_refl _)) (hO1.dig (kO_up hg (by omega))) (ks_set_same _ _ _) (kO_up hg (by omega)) ?_)
    intro j hj
    by_cases e : j = q - 1
    · subst e; rw [va_up_self, hd _ (by omega), if_pos ⟨rfl, by omega⟩]
    · rw [va_up_ne _ _ e, hd j hj, if_neg (fun h => by omega)]; rfl
set_option maxRecDepth 100000 in
set_option maxHeartbeats 2000000 in
theorem l_an50 {l : Launch} {G : ks_G} {d : Nat} {S : ks_S} {xs ys : List (List Nat)} {u x : Nat} {neg : Bool} (hO : st_ok S xs ys u) (hx48 : x < 2 ^ 48) (hneg : neg = true → 0 < x) (hl : xs.length < 1004) (hu : u + nsN x ≤ 24096) {i : Nat} (hi : x < 256 ^ i) (hi2 : i = 0 ∨ 256 ^ (i - 1) ≤ x) (hi7 : i ≤ 6) : ∀ (S1 : ks_S) (dt : Nat → Nat), stU S S1 u → st_ok S1 xs ys u → S1.2.2 35 = some (kB 8 dt) → kO dt → (∀ j, j < i → dt j = x / 256 ^ j % 256) → ks_X l G mX8_addNumber (d + 2) 50 [(0, .ref 29), (1, .long (numZ neg x)), (5, .int (nI i))] [] S1 (fun z S' => z = some (.int (ks_bo true)) ∧ stU S S' u ∧ st_ok S' (numS neg x :: xs) ys (u + (numS neg x).length)) := by
  intro S1 dt hu1 hO1 h35 hg hd
  obtain ⟨n, o, ar, dt0, fa, fc, oa, oc, hX, hx, hy⟩ := id hO1
  have hlen : tg_len x 8 = i := tg_len_is hi hi2 (by omega)
  have hi0 : 0 < x → 0 < i := fun h => by rcases Nat.eq_zero_or_pos i with e | e; rw [e] at hi; omega; exact e
  refine ks_iload dX8_addNumber_50 rfl rfl ?_
  refine ks_if_leN (tgt := 78) (by omega) dX8_addNumber_52 (by decide) rfl (fun hc52 => ?_) (fun hc52 => ?_)
  · have hq : i = nsN x := by
      unfold nsN
      rw [hlen, if_neg]
      rintro ⟨a1, a2⟩
      rw [← hd (i - 1) (by omega)] at a2
      omega
    exact ks_sub [(0, _), (1, _), (5, _)] rfl (l_an78 hO hx48 hneg hl hu hq (by omega) hi0 S1 dt hu1 hO1 h35 hg hd (fun h => by omega))
  · refine ks_aload_n dX8_addNumber_55 rfl rfl ?_
    refine ks_getf (T := TX8) (kf := 8) kx_620 rfl in_X8 cl_X8 (by decide) hX.1 rfl dX8_addNumber_56 rfl ?_
    refine ks_iload dX8_addNumber_59 rfl rfl ?_
    refine ks_iconst (x := nI 1) dX8_addNumber_61 (by decide) rfl ?_
    refine ks_subN (by omega) dX8_addNumber_62 rfl ?_
    refine ks_baldB (i := i - 1) h35 rfl (by omega) (by decide) dX8_addNumber_63 rfl ?_
    refine ks_if_geY (tgt := 78) (hg _) dX8_addNumber_64 (by decide) rfl (fun hc64 => ?_) (fun hc64 => ?_)
    · have hq : i = nsN x := by
        unfold nsN
        rw [hlen, if_neg]
        rintro ⟨a1, a2⟩
        rw [← hd (i - 1) (by omega)] at a2
        omega
      exact ks_sub [(0, _), (1, _), (5, _)] rfl (l_an78 hO hx48 hneg hl hu hq (by omega) hi0 S1 dt hu1 hO1 h35 hg hd (fun h => by omega))
    · refine ks_aload_n dX8_addNumber_67 rfl rfl ?_
      refine ks_getf (T := TX8) (kf := 8) kx_620 rfl in_X8 cl_X8 (by decide) hX.1 rfl dX8_addNumber_68 rfl ?_
      refine ks_iload dX8_addNumber_71 rfl rfl ?_
      refine ks_iconst (x := nI 0) dX8_addNumber_73 (by decide) rfl ?_
      refine ks_bastB (i := i) (c := 0) h35 rfl (by omega) (by decide) (ks_by_nI _) dX8_addNumber_74 rfl ?_
      refine ks_incN (c := 1) (e := i + 1) dX8_addNumber_75 rfl (by decide) rfl (by decide) rfl ?_
      refine ks_sub [(5, _), (0, _), (1, _)] rfl ?_
      have hq : i + 1 = nsN x := by unfold nsN; rw [hlen, if_pos ⟨by omega, by rw [← hd (i - 1) (by omega)]; omega⟩]
      refine ks_sub [(0, _), (1, _), (5, _)] rfl (l_an78 hO hx48 hneg hl hu hq (by omega) (by omega) _ _ (hu1.trans (stU.of (ks_up_set _ _ (by decide))) (Nat.le_refl _)) (hO1.dig (kO_up hg (by decide))) (ks_set_same _ _ _) (kO_up hg (by decide)) ?_ ?_)
      · intro j hj
        by_cases e : j = i
        · subst e; rw [va_up_self, Nat.div_eq_of_lt hi]
        · rw [va_up_ne _ _ e, hd j (by omega)]
      · intro _
        rw [Nat.add_sub_cancel, va_up_self]; decide
set_option maxRecDepth 100000 in
set_option maxHeartbeats 2000000 in
theorem l_an16 {l : Launch} {G : ks_G} {d : Nat} {S : ks_S} {xs ys : List (List Nat)} {u x : Nat} {neg : Bool} (hO : st_ok S xs ys u) (hx48 : x < 2 ^ 48) (hneg : neg = true → 0 < x) (hl : xs.length < 1004) (hu : u + nsN x ≤ 24096) : ∀ c i, i + c = 6 → ∀ (S1 : ks_S) (dt : Nat → Nat), stU S S1 u → st_ok S1 xs ys u → S1.2.2 35 = some (kB 8 dt) → kO dt → (i = 0 ∨ 256 ^ (i - 1) ≤ x) → (∀ j, j < i → dt j = x / 256 ^ j % 256) → ks_X l G mX8_addNumber (d + 2) 16 [(0, .ref 29), (1, .long (numZ neg x)), (3, .long (lN (x / 256 ^ i))), (5, .int (nI i))] [] S1 (fun z S' => z = some (.int (ks_bo true)) ∧ stU S S' u ∧ st_ok S' (numS neg x :: xs) ys (u + (numS neg x).length)) := by
  intro c
  induction c with
  | zero =>
    intro i hic S1 dt hu1 hO1 h35 hg hi2 hd
    obtain ⟨n, o, ar, dt0, fa, fc, oa, oc, hX, hx, hy⟩ := id hO1
    have hxi : x / 256 ^ i ≤ x := Nat.div_le_self _ _
    refine ks_lload_n dX8_addNumber_16 rfl rfl ?_
    refine ks_lconst (x := lN 0) dX8_addNumber_17 (by decide) rfl ?_
    refine ks_lif_eqN (tgt := 50) (by omega) (by decide) dX8_addNumber_18 rfl dX8_addNumber_19 (by decide) rfl (fun hz => ?_) (fun hz => ?_)
    · refine ks_sub [(0, _), (1, _), (5, _)] rfl ?_
      exact ks_sub [(0, _), (1, _), (5, _)] rfl (l_an50 hO hx48 hneg hl hu (Nat.lt_of_not_le (fun h => by
        have := Nat.div_pos h (Nat.pow_pos (n := i) (show 0 < 256 by decide))
        omega)) hi2 (by omega) S1 dt hu1 hO1 h35 hg hd)
    · obtain rfl : i = 6 := by omega
      exact absurd (Nat.div_eq_of_lt (show x < 256 ^ 6 from hx48)) hz
  | succ c ih =>
    intro i hic S1 dt hu1 hO1 h35 hg hi2 hd
    obtain ⟨n, o, ar, dt0, fa, fc, oa, oc, hX, hx, hy⟩ := id hO1
    have hxi : x / 256 ^ i ≤ x := Nat.div_le_self _ _
    refine ks_lload_n dX8_addNumber_16 rfl rfl ?_
    refine ks_lconst (x := lN 0) dX8_addNumber_17 (by decide) rfl ?_
    refine ks_lif_eqN (tgt := 50) (by omega) (by decide) dX8_addNumber_18 rfl dX8_addNumber_19 (by decide) rfl (fun hz => ?_) (fun hz => ?_)
    · refine ks_sub [(0, _), (1, _), (5, _)] rfl ?_
      exact ks_sub [(0, _), (1, _), (5, _)] rfl (l_an50 hO hx48 hneg hl hu (Nat.lt_of_not_le (fun h => by
        have := Nat.div_pos h (Nat.pow_pos (n := i) (show 0 < 256 by decide))
        omega)) hi2 (by omega) S1 dt hu1 hO1 h35 hg hd)
    · refine ks_iload dX8_addNumber_22 rfl rfl ?_
      refine ks_bipush (x := nI 7) dX8_addNumber_24 (by decide) rfl ?_
      refine ks_icmp_geN (tgt := 50) (by omega) (by decide) dX8_addNumber_26 (by decide) rfl (fun hi7 => ?_) (fun hi7 => ?_)
      · omega
      · refine ks_aload_n dX8_addNumber_29 rfl rfl ?_
        refine ks_getf (T := TX8) (kf := 8) kx_620 rfl in_X8 cl_X8 (by decide) hX.1 rfl dX8_addNumber_30 rfl ?_
        refine ks_iload dX8_addNumber_33 rfl rfl ?_
        refine ks_lload_n dX8_addNumber_35 rfl rfl ?_
        refine ks_l2iN dX8_addNumber_36 rfl ?_
        refine ks_i2b dX8_addNumber_37 rfl ?_
        refine ks_bastB (i := i) (c := (x / 256 ^ i) % 256) h35 rfl (by omega) (by decide) ((ks_by_i8 _).trans (ks_by_nI _)) dX8_addNumber_38 rfl ?_
        refine ks_lload_n dX8_addNumber_39 rfl rfl ?_
        refine ks_bipush (x := nI 8) dX8_addNumber_40 (by decide) rfl ?_
        refine ks_lushrN (k := 8) (by decide) (by omega) dX8_addNumber_42 rfl ?_
        refine ks_lstore_n dX8_addNumber_43 (by decide) rfl ?_
        refine ks_sub [(3, _), (0, _), (1, _), (5, _)] rfl ?_
        refine ks_incN (c := 1) (e := i + 1) dX8_addNumber_44 rfl (by decide) rfl (by decide) rfl ?_
        refine ks_sub [(5, _), (0, _), (1, _), (3, _)] rfl ?_
        refine ks_goto (tgt := 16) dX8_addNumber_47 (by decide) ?_
        have e2 : x / 256 ^ i / 2 ^ 8 = x / 256 ^ (i + 1) := by rw [Nat.div_div_eq_div_mul, ← Nat.pow_succ]
        rw [e2]
        refine ks_sub [(0, _), (1, _), (3, _), (5, _)] rfl (ih (i + 1) (by omega) _ _ (hu1.trans (stU.of (ks_up_set _ _ (by decide))) (Nat.le_refl _)) (hO1.dig (kO_up hg (Nat.mod_lt _ (by decide)))) (ks_set_same _ _ _) (kO_up hg (Nat.mod_lt _ (by decide))) (Or.inr ?_) ?_)
        · rw [Nat.add_sub_cancel]
          exact Nat.le_of_not_lt (fun h => hz (Nat.div_eq_of_lt h))
        · intro j hj
          by_cases e : j = i
          · subst e; rw [va_up_self]
          · rw [va_up_ne _ _ e, hd j (by omega)]
set_option maxRecDepth 100000 in
set_option maxHeartbeats 2000000 in
theorem c_st_addNumber {l : Launch} {G : ks_G} {d : Nat} {S : ks_S} {xs ys : List (List Nat)} {u x : Nat} {neg : Bool} (hO : st_ok S xs ys u) (hx48 : x < 2 ^ 48) (hneg : neg = true → 0 < x) (hl : xs.length < 1004) (hu : u + nsN x ≤ 24096) : ks_P l G yX8_addNumber mX8_addNumber (d + 2) [.ref 29, .long (numZ neg x)] S (fun z S' => z = some (.int (ks_bo true)) ∧ stU S S' u ∧ st_ok S' (numS neg x :: xs) ys (u + (numS neg x).length)) := by
  obtain ⟨n, o, ar, dt, fa, fc, oa, oc, hX, hx, hy⟩ := id hO
  refine ks_of (by decide) rfl rfl (Nat.le_of_ble_eq_true rfl) ?_
  show ks_X l G mX8_addNumber (d + 2) 0 [(0, .ref 29), (1, .long (numZ neg x))] [] S _
  refine ks_lload_n dX8_addNumber_0 rfl rfl ?_
  refine ks_lconst (x := lN 0) dX8_addNumber_1 (by decide) rfl ?_
  refine ks_lif_ge (tgt := 11) dX8_addNumber_2 rfl dX8_addNumber_3 (by decide) rfl (fun hv => ?_) (fun hv => ?_)
  · refine ks_lload_n dX8_addNumber_11 rfl rfl ?_
    have hn : neg = false := by
      cases neg with
      | false => rfl
      | true => exact absurd (numZ_neg (hneg rfl) (by omega)).1 (Int64.not_lt.mpr hv)
    refine ks_tl (y := lN (x / 256 ^ 0)) (by rw [hn, Nat.pow_zero, Nat.div_one]; rfl) ?_
    refine ks_lstore_n dX8_addNumber_12 (by decide) rfl ?_
    refine ks_sub [(3, _), (0, _), (1, _)] rfl ?_
    refine ks_iconst (x := nI 0) dX8_addNumber_13 (by decide) rfl ?_
    refine ks_istore dX8_addNumber_14 (by decide) rfl ?_
    refine ks_sub [(5, _), (0, _), (1, _), (3, _)] rfl ?_
    exact ks_sub [(0, _), (1, _), (3, _), (5, _)] rfl (l_an16 hO hx48 hneg hl hu 6 0 rfl S dt (stU.rf _ _) hO hX.2.2.2.2.2.2.1 hX.2.2.2.2.2.2.2.2.1 (Or.inl rfl) (fun j hj => absurd hj (Nat.not_lt_zero j)))
  · refine ks_lload_n dX8_addNumber_6 rfl rfl ?_
    refine ks_lneg dX8_addNumber_7 rfl ?_
    refine ks_goto (tgt := 12) dX8_addNumber_8 (by decide) ?_
    have hn : neg = true := by
      cases neg with
      | true => rfl
      | false => exact absurd ((pk_lLE (by decide) (by omega)).mpr (Nat.zero_le x)) hv
    refine ks_tl (y := lN (x / 256 ^ 0)) (by rw [hn, Nat.pow_zero, Nat.div_one]; exact (numZ_neg (hneg hn) (by omega)).2) ?_
    refine ks_lstore_n dX8_addNumber_12 (by decide) rfl ?_
    refine ks_sub [(3, _), (0, _), (1, _)] rfl ?_
    refine ks_iconst (x := nI 0) dX8_addNumber_13 (by decide) rfl ?_
    refine ks_istore dX8_addNumber_14 (by decide) rfl ?_
    refine ks_sub [(5, _), (0, _), (1, _), (3, _)] rfl ?_
    exact ks_sub [(0, _), (1, _), (3, _), (5, _)] rfl (l_an16 hO hx48 hneg hl hu 6 0 rfl S dt (stU.rf _ _) hO hX.2.2.2.2.2.2.1 hX.2.2.2.2.2.2.2.2.1 (Or.inl rfl) (fun j hj => absurd hj (Nat.not_lt_zero j)))
