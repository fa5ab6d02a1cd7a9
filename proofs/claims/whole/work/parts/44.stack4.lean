/-! STACK: the number of an element; numbers as integers -/
def leV : List Nat → Nat
  | [] => 0
  | x :: r => x + 256 * leV r
theorem leV_lt : ∀ {x : List Nat}, (∀ b ∈ x, b < 256) → leV x < 256 ^ x.length
  | [], _ => Nat.one_pos
  | x :: r, h => by
    have h1 := leV_lt (x := r) (fun b hb => h b (List.mem_cons_of_mem x hb))
    have h2 := h x List.mem_cons_self
    rw [leV, List.length_cons, Nat.pow_succ]
    omega
theorem bytL_cons (f : Nat → Nat) (i n : Nat) : bytL f i (n + 1) = f i :: bytL f (i + 1) n := by
  rw [Nat.add_comm n 1, bytL_app, bytL_1]
  rfl
theorem bytL_b {f : Nat → Nat} (h : kO f) (i n : Nat) : ∀ b ∈ bytL f i n, b < 256 := by
  intro b hb
  unfold bytL at hb
  obtain ⟨j, _, rfl⟩ := List.mem_map.mp hb
  exact h _
/-- the number that an element is -/
def numV (x : List Nat) : Int := if leV x < 2 ^ (8 * x.length - 1) then (leV x : Int) else -((leV x - 2 ^ (8 * x.length - 1) : Nat) : Int)
abbrev iL (v : Int) : Int64 := Int64.ofInt v
theorem lN_iL (x : Nat) : lN x = iL (x : Int) := rfl
theorem iL_T {v : Int} (h1 : -(2 ^ 63) ≤ v) (h2 : v < 2 ^ 63) : (iL v).toInt = v := Int64.toInt_ofInt_of_le h1 h2
theorem iL_neg (v : Int) : -(iL v) = iL (-v) := (Int64.ofInt_neg v).symm
theorem nb_and {v k : Nat} (h : v < 2 ^ k) : v &&& 1 * 2 ^ k = 0 := by
  apply Nat.eq_of_testBit_eq
  intro i
  rw [Nat.testBit_and, Nat.one_mul, Nat.testBit_two_pow, Nat.zero_testBit]
  by_cases hi : k = i
  · subst hi
    rw [Nat.testBit_lt_two_pow h]
    rfl
  · simp [hi]
theorem nb_lo {v k : Nat} (h : v < 2 ^ k) (hk : k < 63) : lN v &&& lN (1 * 2 ^ k) = lN 0 := by
  have h2 := Nat.pow_lt_pow_right (show 1 < 2 by decide) hk
  have e : v &&& 1 * 2 ^ k = 0 := nb_and h
  exact g_and (by omega) (by omega) e
theorem nb_hi {v k : Nat} (h : ¬ v < 2 ^ k) (hv : v < 2 ^ (k + 1)) (hk : k < 63) : lN v &&& lN (1 * 2 ^ k) = lN (2 ^ k) := by
  have h2 := Nat.pow_lt_pow_right (show 1 < 2 by decide) hk
  rw [Nat.pow_succ] at hv
  have e : v &&& 1 * 2 ^ k = 2 ^ k := by
    have : v.testBit k = true := by
      rw [Nat.testBit_eq_decide_div_mod_eq]
      have : v / 2 ^ k = 1 := Nat.div_eq_of_lt_le (by omega) (by omega)
      rw [this]; rfl
    apply Nat.eq_of_testBit_eq
    intro i
    rw [Nat.testBit_and, Nat.one_mul, Nat.testBit_two_pow]
    by_cases hi : k = i
    · subst hi; rw [this]; rfl
    · simp [hi]
  exact g_and (by omega) (by omega) e
theorem nb_xor {v k : Nat} (h : ¬ v < 2 ^ k) (hv : v < 2 ^ (k + 1)) (hk : k < 63) : lN v ^^^ lN (1 * 2 ^ k) = lN (v - 2 ^ k) := by
  have h2 := Nat.pow_lt_pow_right (show 1 < 2 by decide) hk
  rw [Nat.pow_succ] at hv
  have e : v ^^^ 1 * 2 ^ k = v - 2 ^ k := by
    rw [Nat.one_mul]
    have e1 : v = 2 ^ k * 1 + (v - 2 ^ k) := by omega
    have e2 : 2 ^ k * 1 + (v - 2 ^ k) = 2 ^ k ||| (v - 2 ^ k) := by rw [Nat.two_pow_add_eq_or_of_lt (by omega), Nat.mul_one]
    apply Nat.eq_of_testBit_eq
    intro i
    rw [Nat.testBit_xor]
    have e3 : v.testBit i = ((2 ^ k).testBit i || (v - 2 ^ k).testBit i) := by
      rw [← Nat.testBit_or, ← e2, ← e1]
    rw [e3, Nat.testBit_two_pow]
    by_cases hi : k = i
    · subst hi
      rw [Nat.testBit_lt_two_pow (show v - 2 ^ k < 2 ^ k by omega)]
      simp
    · simp [hi]
  have h3 : UInt64.ofNat v ^^^ UInt64.ofNat (1 * 2 ^ k) = UInt64.ofNat (v - 2 ^ k) := UInt64.toNat_inj.mp (by rw [UInt64.toNat_xor, u_tn (by omega), u_tn (by omega), u_tn (by omega), e])
  have h4 := congrArg UInt64.toInt64 h3
  exact h4
set_option maxRecDepth 100000 in
set_option maxHeartbeats 2000000 in
theorem c_st_number {l : Launch} {G : ks_G} {d : Nat} {S : ks_S} {xs ys : List (List Nat)} {u : Nat} (hO : st_ok S xs ys u) {c : Nat} {x : List Nat} (hc : xs[c]? = some x) (hx5 : x.length ≤ 5) : ks_P l G yX8_number mX8_number d [.ref 29, .int (nI c)] S (fun z S' => z = some (.long (iL (numV x))) ∧ S' = S) := by
  obtain ⟨n, o, ar, dt, fa, fc, oa, oc, hX, hx, hy⟩ := hO
  have b1 := hX.2.2.2.2.2.2.2.2.2.1
  have b2 := hX.2.2.2.2.2.2.2.2.2.2.1
  have b3 := hX.2.2.2.2.2.2.2.2.2.2.2.1
  have lx : xs.length = n := by rw [hx, stE_len]
  have ly : ys.length = o := by rw [hy, stE_len]
  have hcn : c < n := by
    apply Nat.lt_of_not_le
    intro h9
    rw [List.getElem?_eq_none (by rw [lx]; exact h9)] at hc
    cases hc
  rw [hx, stE_at ar fa fc n c hcn] at hc
  obtain rfl := Option.some.inj hc
  rw [bytL_len] at hx5
  have f1 := hX.2.2.2.2.2.2.2.2.2.2.2.2.1 (n - 1 - c) (by omega)
  generalize ea : fa (n - 1 - c) = a at *
  generalize em : fc (n - 1 - c) = m at *
  have hv8 : ∀ k, k ≤ m → leV (bytL ar (a + k) (m - k)) < 2 ^ (8 * (m - k)) := fun k hk => by
    have := leV_lt (bytL_b hX.2.2.2.2.2.2.2.1 (a + k) (m - k))
    rwa [bytL_len, show 256 = 2 ^ 8 from rfl, ← Nat.pow_mul] at this
  have hv40 : ∀ k, k ≤ m → leV (bytL ar (a + k) (m - k)) < 2 ^ 40 := fun k hk => Nat.lt_of_lt_of_le (hv8 k hk) (Nat.pow_le_pow_right (by decide) (by omega))
  have tail : 0 < m → ks_X l G mX8_number d 70 [(0, .ref 29), (1, .int (nI c)), (2, .int (nI m)), (3, .long (lN (leV (bytL ar a m))))] [] S (fun z S' => z = some (.long (iL (numV (bytL ar a m)))) ∧ S' = S) := by
    intro hm0
    have v8 := hv8 0 (by omega)
    have v40 := hv40 0 (by omega)
    rw [Nat.add_zero, Nat.sub_zero] at v8 v40
    have p8 : 8 * m - 1 + 1 = 8 * m := by omega
    have p1 : 2 ^ (8 * m - 1) < 2 ^ 40 := Nat.pow_lt_pow_right (by decide) (by omega)
    by_cases hs : leV (bytL ar a m) < 2 ^ (8 * m - 1)
    · refine ks_lconst (x := lN 1) dX8_number_70 (by decide) rfl ?_
      refine ks_bipush (x := nI 8) dX8_number_71 (by decide) rfl ?_
      refine ks_iload_n dX8_number_73 rfl rfl ?_
      refine ks_mulN dX8_number_74 rfl ?_
      refine ks_iconst (x := nI 1) dX8_number_75 (by decide) rfl ?_
      refine ks_subN (by omega) dX8_number_76 rfl ?_
      refine ks_lshlN (k := 8 * m - 1) (by omega) dX8_number_77 rfl ?_
      refine ks_lstore dX8_number_78 (by decide) rfl ?_
      refine ks_sub [(5, _), (0, _), (1, _), (2, _), (3, _)] rfl ?_
      refine ks_lload_n dX8_number_80 rfl rfl ?_
      refine ks_lload dX8_number_81 rfl rfl ?_
      refine ks_land dX8_number_83 rfl ?_
      refine ks_tl (y := lN 0) (nb_lo hs (by omega)) ?_
      refine ks_lconst (x := lN 0) dX8_number_84 (by decide) rfl ?_
      refine ks_lif_neN (tgt := 93) (by decide) (by decide) dX8_number_85 rfl dX8_number_86 (by decide) rfl (fun hz => ?_) (fun hz => ?_)
      · exact absurd rfl hz
      · refine ks_lload_n dX8_number_89 rfl rfl ?_
        refine ks_goto (tgt := 98) dX8_number_90 (by decide) ?_
        refine ks_lret rfl dX8_number_98 ?_
        refine ⟨?_, rfl⟩
        unfold numV
        rw [bytL_len, if_pos hs]
        rfl
    · refine ks_lconst (x := lN 1) dX8_number_70 (by decide) rfl ?_
      refine ks_bipush (x := nI 8) dX8_number_71 (by decide) rfl ?_
      refine ks_iload_n dX8_number_73 rfl rfl ?_
      refine ks_mulN dX8_number_74 rfl ?_
      refine ks_iconst (x := nI 1) dX8_number_75 (by decide) rfl ?_
      refine ks_subN (by omega) dX8_number_76 rfl ?_
      refine ks_lshlN (k := 8 * m - 1) (by omega) dX8_number_77 rfl ?_
      refine ks_lstore dX8_number_78 (by decide) rfl ?_
      refine ks_sub [(5, _), (0, _), (1, _), (2, _), (3, _)] rfl ?_
      refine ks_lload_n dX8_number_80 rfl rfl ?_
      refine ks_lload dX8_number_81 rfl rfl ?_
      refine ks_land dX8_number_83 rfl ?_
      refine ks_tl (y := lN (2 ^ (8 * m - 1))) (nb_hi hs (by rw [p8]; exact v8) (by omega)) ?_
      refine ks_lconst (x := lN 0) dX8_number_84 (by decide) rfl ?_
      refine ks_lif_neN (tgt := 93) (by omega) (by decide) dX8_number_85 rfl dX8_number_86 (by decide) rfl (fun hz => ?_) (fun hz => ?_)
      · refine ks_lload_n dX8_number_93 rfl rfl ?_
        refine ks_lload dX8_number_94 rfl rfl ?_
        refine ks_lxor dX8_number_96 rfl ?_
        refine ks_tl (y := lN (leV (bytL ar a m) - 2 ^ (8 * m - 1))) (nb_xor hs (by rw [p8]; exact v8) (by omega)) ?_
        refine ks_lneg dX8_number_97 rfl ?_
        refine ks_lret rfl dX8_number_98 ?_
        refine ⟨?_, rfl⟩
        unfold numV
        rw [bytL_len, if_neg hs, ← iL_neg]
        rfl
      · exact absurd hz (Nat.ne_of_gt (Nat.two_pow_pos _))
  have loop : 0 < m → ∀ k, k ≤ m → ks_X l G mX8_number d 27 [(0, .ref 29), (1, .int (nI c)), (2, .int (nI m)), (3, .long (lN (leV (bytL ar (a + k) (m - k))))), (5, .int (nI k - 1))] [] S (fun z S' => z = some (.long (iL (numV (bytL ar a m)))) ∧ S' = S) := by
    intro hm0 k
    induction k with
    | zero =>
      intro hk
      rw [Nat.add_zero, Nat.sub_zero]
      refine ks_iload dX8_number_27 rfl rfl ?_
      refine ks_if_ltD (tgt := 70) (by omega) dX8_number_29 (by decide) rfl (fun hz => ?_) (fun hz => ?_)
      · refine ks_sub [(0, _), (1, _), (2, _), (3, _)] rfl ?_
        exact ks_sub [(0, _), (1, _), (2, _), (3, _)] rfl (tail hm0)
      · exact absurd rfl hz
    | succ k ih =>
      intro hk
      have v40 := hv40 k (by omega)
      have v41 := hv40 (k + 1) (by omega)
      have ev : leV (bytL ar (a + (k + 1)) (m - (k + 1))) * 2 ^ 8 + ar (a + k) = leV (bytL ar (a + k) (m - k)) := by
        rw [show m - k = m - (k + 1) + 1 by omega, bytL_cons, leV, show a + k + 1 = a + (k + 1) from rfl]
        omega
      rw [nI_pred]
      refine ks_iload dX8_number_27 rfl rfl ?_
      refine ks_if_ltN (tgt := 70) (by omega) dX8_number_29 (by decide) rfl ?_
      refine ks_lload_n dX8_number_32 rfl rfl ?_
      refine ks_bipush (x := nI 8) dX8_number_33 (by decide) rfl ?_
      refine ks_lshlN (k := 8) (by decide) dX8_number_35 rfl ?_
      refine ks_aload_n dX8_number_36 rfl rfl ?_
      refine ks_getf (T := TX8) (kf := 0) kx_608 rfl in_X8 cl_X8 (by decide) hX.1 rfl dX8_number_37 rfl ?_
      refine ks_aload_n dX8_number_40 rfl rfl ?_
      refine ks_getf (T := TX8) (kf := 1) kx_610 rfl in_X8 cl_X8 (by decide) hX.1 rfl dX8_number_41 rfl ?_
      refine ks_aload_n dX8_number_44 rfl rfl ?_
      refine ks_getf (T := TX8) (kf := 3) kx_614 rfl in_X8 cl_X8 (by decide) hX.1 rfl dX8_number_45 rfl ?_
      refine ks_iconst (x := nI 1) dX8_number_48 (by decide) rfl ?_
      refine ks_subN (by omega) dX8_number_49 rfl ?_
      refine ks_iload_n dX8_number_50 rfl rfl ?_
      refine ks_subN (by omega) dX8_number_51 rfl ?_
      refine ks_ialdN (i := n - 1 - c) hX.2.2.1 rfl (by omega) (by decide) dX8_number_52 rfl ?_
      refine ks_ti (y := nI a) (congrArg nI ea) ?_
      refine ks_iload dX8_number_53 rfl rfl ?_
      refine ks_addN dX8_number_55 rfl ?_
      refine ks_baldB (i := a + k) hX.2.1 rfl (by omega) (by decide) dX8_number_56 rfl ?_
      refine ks_sipush (x := nI 255) dX8_number_57 (by decide) rfl ?_
      refine ks_andB (hX.2.2.2.2.2.2.2.1 _) dX8_number_60 rfl ?_
      have hy60 : ar (a + k) < 256 := (hX.2.2.2.2.2.2.2.1 _)
      refine ks_i2lN (by omega) dX8_number_61 rfl ?_
      refine ks_lorN (a := (leV (bytL ar (a + (k + 1)) (m - (k + 1))))) (k := 8) (p := 2 ^ 8) rfl (by omega) (by omega) dX8_number_62 rfl ?_
      refine ks_tl (y := lN (leV (bytL ar (a + k) (m - k)))) (congrArg lN ev) ?_
      refine ks_lstore_n dX8_number_63 (by decide) rfl ?_
      refine ks_sub [(3, _), (0, _), (1, _), (2, _), (5, _)] rfl ?_
      refine ks_incD dX8_number_64 rfl (by decide) (by decide) rfl ?_
      refine ks_sub [(5, _), (0, _), (1, _), (2, _), (3, _)] rfl ?_
      refine ks_goto (tgt := 27) dX8_number_67 (by decide) ?_
      exact ks_sub [(0, _), (1, _), (2, _), (3, _), (5, _)] rfl (ih (by omega))
  refine ks_of (by decide) rfl rfl (Nat.le_of_ble_eq_true rfl) ?_
  show ks_X l G mX8_number d 0 [(0, .ref 29), (1, .int (nI c))] [] S _
  refine ks_aload_n dX8_number_0 rfl rfl ?_
  refine ks_getf (T := TX8) (kf := 2) kx_612 rfl in_X8 cl_X8 (by decide) hX.1 rfl dX8_number_1 rfl ?_
  refine ks_aload_n dX8_number_4 rfl rfl ?_
  refine ks_getf (T := TX8) (kf := 3) kx_614 rfl in_X8 cl_X8 (by decide) hX.1 rfl dX8_number_5 rfl ?_
  refine ks_iconst (x := nI 1) dX8_number_8 (by decide) rfl ?_
  refine ks_subN (by omega) dX8_number_9 rfl ?_
  refine ks_iload_n dX8_number_10 rfl rfl ?_
  refine ks_subN (by omega) dX8_number_11 rfl ?_
  refine ks_ialdN (i := n - 1 - c) hX.2.2.2.1 rfl (by omega) (by decide) dX8_number_12 rfl ?_
  refine ks_ti (y := nI m) (congrArg nI em) ?_
  refine ks_istore_n dX8_number_13 (by decide) rfl ?_
  refine ks_sub [(2, _), (0, _), (1, _)] rfl ?_
  refine ks_iload_n dX8_number_14 rfl rfl ?_
  refine ks_if_neN (tgt := 20) (by omega) dX8_number_15 (by decide) rfl (fun hz => ?_) (fun hz => ?_)
  · refine ks_lconst (x := lN 0) dX8_number_20 (by decide) rfl ?_
    refine ks_lstore_n dX8_number_21 (by decide) rfl ?_
    refine ks_sub [(3, _), (0, _), (1, _), (2, _)] rfl ?_
    refine ks_iload_n dX8_number_22 rfl rfl ?_
    refine ks_iconst (x := nI 1) dX8_number_23 (by decide) rfl ?_
    refine ks_subD dX8_number_24 rfl ?_
    refine ks_istore dX8_number_25 (by decide) rfl ?_
    refine ks_sub [(5, _), (0, _), (1, _), (2, _), (3, _)] rfl ?_
    have hl9 := loop (by omega) m (Nat.le_refl m)
    rw [Nat.sub_self] at hl9
    exact ks_sub [(0, _), (1, _), (2, _), (3, _), (5, _)] rfl hl9
  · refine ks_lconst (x := lN 0) dX8_number_18 (by decide) rfl ?_
    refine ks_lret rfl dX8_number_19 ?_
    refine ⟨?_, rfl⟩
    subst hz
    rfl
set_option maxRecDepth 100000 in
set_option maxHeartbeats 2000000 in
theorem c_st_copyF {l : Launch} {G : ks_G} {d : Nat} {S : ks_S} {xs ys : List (List Nat)} {u : Nat} (hO : st_ok S xs ys u) {x : Int32} (hx0 : x < 0 ∨ nI xs.length ≤ x) : ks_P l G yX8_copy mX8_copy d [.ref 29, .int x] S (fun z S' => z = some (.int (ks_bo false)) ∧ S' = S) := by
  obtain ⟨n, o, ar, dt, fa, fc, oa, oc, hX, hx, hy⟩ := hO
  have b1 := hX.2.2.2.2.2.2.2.2.2.1
  have b2 := hX.2.2.2.2.2.2.2.2.2.2.1
  have b3 := hX.2.2.2.2.2.2.2.2.2.2.2.1
  have lx : xs.length = n := by rw [hx, stE_len]
  have ly : ys.length = o := by rw [hy, stE_len]
  rw [lx] at hx0
  refine ks_of (by decide) rfl rfl (Nat.le_of_ble_eq_true rfl) ?_
  show ks_X l G mX8_copy d 0 [(0, .ref 29), (1, .int x)] [] S _
  refine ks_iload_n dX8_copy_0 rfl rfl ?_
  refine ks_if_lt (tgt := 22) dX8_copy_1 (by decide) rfl (fun h1 => ?_) (fun h1 => ?_)
  · refine ks_iconst (x := nI 0) dX8_copy_22 (by decide) rfl ?_
    refine ks_zret rfl rfl dX8_copy_23 ?_
    exact ⟨rfl, rfl⟩
  · refine ks_iload_n dX8_copy_4 rfl rfl ?_
    refine ks_aload_n dX8_copy_5 rfl rfl ?_
    refine ks_getf (T := TX8) (kf := 3) kx_614 rfl in_X8 cl_X8 (by decide) hX.1 rfl dX8_copy_6 rfl ?_
    refine ks_icmp_ge (tgt := 22) dX8_copy_9 (by decide) rfl (fun h2 => ?_) (fun h2 => ?_)
    · refine ks_iconst (x := nI 0) dX8_copy_22 (by decide) rfl ?_
      refine ks_zret rfl rfl dX8_copy_23 ?_
      exact ⟨rfl, rfl⟩
    · exfalso
      rcases hx0 with h9 | h9
      · exact absurd h9 (by first | exact Int32.not_lt.mpr h1 | exact h1)
      · exact absurd h9 (by first | exact Int32.not_le.mpr h2 | exact h2)
set_option maxRecDepth 100000 in
set_option maxHeartbeats 2000000 in
theorem c_st_liftF {l : Launch} {G : ks_G} {d : Nat} {S : ks_S} {xs ys : List (List Nat)} {u : Nat} (hO : st_ok S xs ys u) {x : Int32} (hx0 : x < 0 ∨ nI xs.length ≤ x) : ks_P l G yX8_lift mX8_lift (d + 1) [.ref 29, .int x] S (fun z S' => z = some (.int (ks_bo false)) ∧ S' = S) := by
  obtain ⟨n, o, ar, dt, fa, fc, oa, oc, hX, hx, hy⟩ := hO
  have b1 := hX.2.2.2.2.2.2.2.2.2.1
  have b2 := hX.2.2.2.2.2.2.2.2.2.2.1
  have b3 := hX.2.2.2.2.2.2.2.2.2.2.2.1
  have lx : xs.length = n := by rw [hx, stE_len]
  have ly : ys.length = o := by rw [hy, stE_len]
  rw [lx] at hx0
  refine ks_of (by decide) rfl rfl (Nat.le_of_ble_eq_true rfl) ?_
  show ks_X l G mX8_lift (d + 1) 0 [(0, .ref 29), (1, .int x)] [] S _
  refine ks_iload_n dX8_lift_0 rfl rfl ?_
  refine ks_if_lt (tgt := 12) dX8_lift_1 (by decide) rfl (fun h1 => ?_) (fun h1 => ?_)
  · refine ks_iconst (x := nI 0) dX8_lift_12 (by decide) rfl ?_
    refine ks_zret rfl rfl dX8_lift_13 ?_
    exact ⟨rfl, rfl⟩
  · refine ks_iload_n dX8_lift_4 rfl rfl ?_
    refine ks_aload_n dX8_lift_5 rfl rfl ?_
    refine ks_getf (T := TX8) (kf := 3) kx_614 rfl in_X8 cl_X8 (by decide) hX.1 rfl dX8_lift_6 rfl ?_
    refine ks_icmp_lt (tgt := 14) dX8_lift_9 (by decide) rfl (fun h2 => ?_) (fun h2 => ?_)
    · exfalso
      rcases hx0 with h9 | h9
      · exact absurd h9 (by first | exact Int32.not_lt.mpr h1 | exact h1)
      · exact absurd h9 (by first | exact Int32.not_le.mpr h2 | exact h2)
    · refine ks_iconst (x := nI 0) dX8_lift_12 (by decide) rfl ?_
      refine ks_zret rfl rfl dX8_lift_13 ?_
      exact ⟨rfl, rfl⟩
