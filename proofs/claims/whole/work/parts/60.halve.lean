/-! FIELD: copies, halves, small numbers -/
def cpR (R : Nat → Nat) (o x k : Nat) : Nat → Nat := fun q => if o ≤ q ∧ q < o + k then R (q - o + x) else R q
theorem cpR_1 (R : Nat → Nat) (o x : Nat) : cpR R o x 1 = va_up R o (R x) := by
  funext q
  unfold cpR
  by_cases e : q = o
  · subst e; rw [if_pos (by omega), va_up_self, Nat.sub_self, Nat.zero_add]
  · rw [if_neg (by omega), va_up_ne _ _ e]
theorem lay_cpR (R : Nat → Nat) (o x k : Nat) : va_cpy (lay R) (lay R) (9 * x) (9 * o) (9 * k) = lay (cpR R o x k) := by
  funext j
  unfold va_cpy lay cpR
  by_cases c : 9 * o ≤ j ∧ j < 9 * o + 9 * k
  · rw [if_pos (by omega), if_pos (by omega)]
    rw [show (9 * x + (j - 9 * o)) / 9 = j / 9 - o + x by omega, show (9 * x + (j - 9 * o)) % 9 = j % 9 by omega]
  · rw [if_neg (by omega), if_neg (by omega)]
theorem kL_cpy (f g : Nat → Nat) (sp dp n : Nat) : va_cpy (fun j => lN (f j)) (fun j => lN (g j)) sp dp n = fun j => lN (va_cpy f g sp dp n j) := by
  funext j
  unfold va_cpy
  split <;> rfl
theorem fdX.cp {S S1 : ks_S} {fo fc n o x k : Nat} {R : Nat → Nat} (h : fdX S fo fc n R) (hu : ks_up S S1 [fc]) (hc : S1.2.2 fc = some (kL (9 * (n + 5)) (lay (cpR R o x k)))) : fdX S1 fo fc n (cpR R o x k) := by
  refine ⟨hu.at h.1 (by simp only [List.mem_cons, List.not_mem_nil, or_false]; exact h.2.2.2.1), hc, h.2.2.1, h.2.2.2.1, fun q => ?_⟩
  unfold cpR
  split <;> exact h.2.2.2.2 _
def layS (R : Nat → Nat) (x y i : Nat) (j : Nat) : Nat := if 9 * x ≤ j ∧ j < 9 * x + i then dL (R y) (j - 9 * x) else if 9 * y ≤ j ∧ j < 9 * y + i then dL (R x) (j - 9 * y) else lay R j
theorem layS_0 (R : Nat → Nat) (x y : Nat) : layS R x y 0 = lay R := by
  funext j
  unfold layS
  rw [if_neg (by omega), if_neg (by omega)]
theorem layS_9 (R : Nat → Nat) {x y : Nat} (h : x ≠ y) : layS R x y 9 = lay (va_up (va_up R x (R y)) y (R x)) := by
  funext j
  unfold layS lay
  by_cases c : 9 * x ≤ j ∧ j < 9 * x + 9
  · rw [if_pos c, va_up_ne _ _ (by omega), show j / 9 = x by omega, va_up_self, show j % 9 = j - 9 * x by omega]
  · rw [if_neg c]
    by_cases c2 : 9 * y ≤ j ∧ j < 9 * y + 9
    · rw [if_pos c2, show j / 9 = y by omega, va_up_self, show j % 9 = j - 9 * y by omega]
    · rw [if_neg c2, va_up_ne _ _ (by omega), va_up_ne _ _ (by omega)]
theorem layS_rx (R : Nat → Nat) {x y i : Nat} (h : x ≠ y) (hi : i < 9) : layS R x y i (9 * x + i) = dL (R x) i := by
  unfold layS
  rw [if_neg (by omega), if_neg (by omega), lay_at R x hi]
theorem layS_ry (R : Nat → Nat) {x y i v : Nat} (h : x ≠ y) (hi : i < 9) : layS R x y i (9 * y + i) = dL (R y) i := by
  unfold layS
  rw [if_neg (by omega), if_neg (by omega), lay_at R y hi]
theorem layS_up (R : Nat → Nat) {x y i : Nat} (h : x ≠ y) (hi : i < 9) : va_up (va_up (layS R x y i) (9 * x + i) (dL (R y) i)) (9 * y + i) (dL (R x) i) = layS R x y (i + 1) := by
  funext j
  by_cases c : j = 9 * y + i
  · subst c
    rw [va_up_self]
    unfold layS
    rw [if_neg (by omega), if_pos (by omega), show 9 * y + i - 9 * y = i by omega]
  · rw [va_up_ne _ _ c]
    by_cases c2 : j = 9 * x + i
    · subst c2
      rw [va_up_self]
      unfold layS
      rw [if_pos (by omega), show 9 * x + i - 9 * x = i by omega]
    · rw [va_up_ne _ _ c2]
      unfold layS
      by_cases a : 9 * x ≤ j ∧ j < 9 * x + i
      · rw [if_pos a, if_pos (by omega)]
      · rw [if_neg a]
        rw [if_neg (show ¬ (9 * x ≤ j ∧ j < 9 * x + (i + 1)) by omega)]
        by_cases b : 9 * y ≤ j ∧ j < 9 * y + i
        · rw [if_pos b, if_pos (by omega)]
        · rw [if_neg b, if_neg (by omega)]
theorem layP_rd1 (R : Nat → Nat) (x v : Nat) {i : Nat} (h : i + 1 < 9) : layP R x v i (9 * x + i + 1) = dL (R x) (i + 1) := by
  unfold layP
  rw [if_neg (by omega), Nat.add_assoc, lay_at R x h]
theorem half_d (v : Nat) (i : Nat) : dL v i / 2 + dL v (i + 1) % 2 * 268435456 = dL (v / 2) i := by
  unfold dL
  rw [show 2 ^ (29 * (i + 1)) = 2 ^ (29 * i) * 536870912 by rw [Nat.mul_succ, Nat.pow_add], ← Nat.div_div_eq_div_mul, Nat.div_div_eq_div_mul v 2, Nat.mul_comm 2, ← Nat.div_div_eq_div_mul v _ 2]
  omega
theorem half_8 {v : Nat} (h : v < 3705346855594118253554271520278013051304639509300498049262642688253220148477952) : dL v 8 / 2 = dL (v / 2) 8 := by
  have h1 := half_d v 8
  have e : dL v 9 = 0 := by
    unfold dL
    rw [Nat.div_eq_of_lt (by rw [p261]; exact h)]
  rw [show 8 + 1 = 9 from rfl, e] at h1
  omega
theorem lay_fill (R : Nat → Nat) (o : Nat) : ks_fill (fun j => lN (lay R j)) (9 * o) (9 * o + 9) (lN 0) = fun j => lN (lay (va_up R o 0) j) := by
  funext j
  unfold ks_fill
  rw [← layP_9]
  unfold layP
  split
  · congr 1
    unfold dL
    rw [Nat.zero_div]
  · rfl
theorem small_d {v : Nat} (h : v < 2147483648) (R : Nat → Nat) (o : Nat) : va_up (va_up (lay (va_up R o 0)) (9 * o) (v % 536870912)) (9 * o + 1) (v / 536870912) = lay (va_up R o v) := by
  funext j
  rw [← layP_9 R o v]
  by_cases c1 : j = 9 * o + 1
  · subst c1
    rw [va_up_self]
    unfold layP
    rw [if_pos (by omega), show 9 * o + 1 - 9 * o = 1 by omega]
    unfold dL
    omega
  · rw [va_up_ne _ _ c1]
    by_cases c2 : j = 9 * o
    · subst c2
      rw [va_up_self]
      unfold layP
      rw [if_pos (by omega), Nat.sub_self, dL_0]
    · rw [va_up_ne _ _ c2, ← layP_9]
      unfold layP
      split
      · next h9 =>
        have e : dL v (j - 9 * o) = 0 := by
          unfold dL
          rw [Nat.div_eq_of_lt]
          exact Nat.lt_of_lt_of_le (show v < 2 ^ 58 by omega) (Nat.pow_le_pow_right (by decide) (by omega))
        rw [e]
        unfold dL
        rw [Nat.zero_div]
      · rfl
set_option maxRecDepth 100000 in
set_option maxHeartbeats 2000000 in
theorem c_fd_copy {l : Launch} {G : ks_G} {d : Nat} {S : ks_S} {fo fc n : Nat} {R : Nat → Nat} (hF : fdX S fo fc n R) {o x k : Nat} (ho : o + k ≤ n + 5) (hx : x + k ≤ n + 5) : ks_P l G yX5_copy mX5_copy (d + 1) [.ref fo, .int (nI (9 * o)), .int (nI (9 * x)), .int (nI k)] S (fun z S' => z = none ∧ ks_up S S' [fc] ∧ fdX S' fo fc n (cpR R o x k)) := by
  have hn := hF.2.2.1
  refine ks_of (by decide) rfl rfl (Nat.le_of_ble_eq_true rfl) ?_
  show ks_X l G mX5_copy (d + 1) 0 [(0, .ref fo), (1, .int (nI (9 * o))), (2, .int (nI (9 * x))), (3, .int (nI k))] [] S _
  refine ks_aload_n dX5_copy_0 rfl rfl ?_
  refine ks_getf (T := TX5) (kf := 0) kx_121 rfl in_X5 cl_X5 (by decide) hF.1 rfl dX5_copy_1 rfl ?_
  refine ks_iload_n dX5_copy_4 rfl rfl ?_
  refine ks_aload_n dX5_copy_5 rfl rfl ?_
  refine ks_getf (T := TX5) (kf := 0) kx_121 rfl in_X5 cl_X5 (by decide) hF.1 rfl dX5_copy_6 rfl ?_
  refine ks_iload_n dX5_copy_9 rfl rfl ?_
  refine ks_bipush (x := nI 9) dX5_copy_10 (by decide) rfl ?_
  refine ks_iload_n dX5_copy_12 rfl rfl ?_
  refine ks_mulN dX5_copy_13 rfl ?_
  refine ks_copyl (n := 9 * k) (dp := 9 * o) (sp := 9 * x) hF.2.1 hF.2.1 (by omega) (by omega) (by omega) (by omega) kx_534 kx_275 kx_274 kx_17 (by omega) (Nat.le_of_ble_eq_true rfl) dX5_copy_14 rfl ?_
  refine ks_tS (by rw [kL_cpy]) ?_
  refine ks_ret rfl dX5_copy_17 ?_
  refine ⟨rfl, ks_up_set _ _ (by simp), hF.cp (ks_up_set _ _ (by simp)) ?_⟩
  rw [← lay_cpR]
  exact ks_set_same _ _ _
set_option maxRecDepth 100000 in
set_option maxHeartbeats 2000000 in
theorem c_fd_swap {l : Launch} {G : ks_G} {d : Nat} {S : ks_S} {fo fc n : Nat} {R : Nat → Nat} (hF : fdX S fo fc n R) {x y : Nat} (hx : x < n + 5) (hy : y < n + 5) (hxy : x ≠ y) : ks_P l G yX5_swap mX5_swap d [.ref fo, .int (nI (9 * x)), .int (nI (9 * y))] S (fun z S' => z = none ∧ ks_up S S' [fc] ∧ fdX S' fo fc n (va_up (va_up R x (R y)) y (R x))) := by
  have hn := hF.2.2.1
  have loop : ∀ c i (S1 : ks_S), i + c = 9 → ks_up S S1 [fc] → S1.2.2 fo = some (.inr (8, [.ref fc, .int (nI (9 * n)), .int (nI (9 * (n + 1))), .int (nI (9 * (n + 2))), .int (nI (9 * (n + 3))), .int (nI (9 * (n + 4)))])) → S1.2.2 fc = some (kL (9 * (n + 5)) (layS R x y i)) → ks_X l G mX5_swap d 2 [(0, .ref fo), (1, .int (nI (9 * x))), (2, .int (nI (9 * y))), (3, .int (nI i))] [] S1 (fun z S' => z = none ∧ ks_up S S' [fc] ∧ fdX S' fo fc n (va_up (va_up R x (R y)) y (R x))) := by
    intro c
    induction c with
    | zero =>
      intro i S1 hi hu ho hc
      refine ks_iload_n dX5_swap_2 rfl rfl ?_
      refine ks_bipush (x := nI 9) dX5_swap_3 (by decide) rfl ?_
      refine ks_icmp_geN (tgt := 50) (by omega) (by decide) dX5_swap_5 (by decide) rfl (fun h1 => ?_) (fun h1 => ?_)
      · obtain rfl : i = 9 := by omega
        rw [layS_9 R hxy] at hc
        refine ks_ret rfl dX5_swap_50 ?_
        refine ⟨rfl, hu, ?_⟩
        have h1 : ∀ q, (va_up (va_up R x (R y)) y (R x)) q < 3705346855594118253554271520278013051304639509300498049262642688253220148477952 := fun q => by
          by_cases e : q = y
          · rw [e, va_up_self]; exact hF.2.2.2.2 x
          · rw [va_up_ne _ _ e]
            by_cases e2 : q = x
            · rw [e2, va_up_self]; exact hF.2.2.2.2 y
            · rw [va_up_ne _ _ e2]; exact hF.2.2.2.2 q
        exact ⟨ho, hc, hF.2.2.1, hF.2.2.2.1, h1⟩
      · omega
    | succ c ih =>
      intro i S1 hi hu ho hc
      refine ks_iload_n dX5_swap_2 rfl rfl ?_
      refine ks_bipush (x := nI 9) dX5_swap_3 (by decide) rfl ?_
      refine ks_icmp_geN (tgt := 50) (by omega) (by decide) dX5_swap_5 (by decide) rfl (fun h1 => ?_) (fun h1 => ?_)
      · omega
      · refine ks_aload_n dX5_swap_8 rfl rfl ?_
        refine ks_getf (T := TX5) (kf := 0) kx_121 rfl in_X5 cl_X5 (by decide) ho rfl dX5_swap_9 rfl ?_
        refine ks_iload_n dX5_swap_12 rfl rfl ?_
        refine ks_iload_n dX5_swap_13 rfl rfl ?_
        refine ks_addN dX5_swap_14 rfl ?_
        refine ks_laldN (i := 9 * x + i) hc rfl (by omega) (by omega) dX5_swap_15 rfl ?_
        rw [layS_rx R hxy (by omega)]
        refine ks_lstore dX5_swap_16 (by decide) rfl ?_
        refine ks_sub [(4, _), (0, _), (1, _), (2, _), (3, _)] rfl ?_
        refine ks_aload_n dX5_swap_18 rfl rfl ?_
        refine ks_getf (T := TX5) (kf := 0) kx_121 rfl in_X5 cl_X5 (by decide) ho rfl dX5_swap_19 rfl ?_
        refine ks_iload_n dX5_swap_22 rfl rfl ?_
        refine ks_iload_n dX5_swap_23 rfl rfl ?_
        refine ks_addN dX5_swap_24 rfl ?_
        refine ks_aload_n dX5_swap_25 rfl rfl ?_
        refine ks_getf (T := TX5) (kf := 0) kx_121 rfl in_X5 cl_X5 (by decide) ho rfl dX5_swap_26 rfl ?_
        refine ks_iload_n dX5_swap_29 rfl rfl ?_
        refine ks_iload_n dX5_swap_30 rfl rfl ?_
        refine ks_addN dX5_swap_31 rfl ?_
        refine ks_laldN (i := 9 * y + i) hc rfl (by omega) (by omega) dX5_swap_32 rfl ?_
        rw [layS_ry R (v := 0) hxy (by omega)]
        refine ks_lastNN (i := 9 * x + i) (v := dL (R y) i) hc (by omega) (by omega) dX5_swap_33 rfl ?_
        refine ks_aload_n dX5_swap_34 rfl rfl ?_
        refine ks_getf (T := TX5) (kf := 0) kx_121 rfl in_X5 cl_X5 (by decide) ((ks_set_ne _ _ hF.2.2.2.1).trans ho) rfl dX5_swap_35 rfl ?_
        refine ks_iload_n dX5_swap_38 rfl rfl ?_
        refine ks_iload_n dX5_swap_39 rfl rfl ?_
        refine ks_addN dX5_swap_40 rfl ?_
        refine ks_lload dX5_swap_41 rfl rfl ?_
        refine ks_lastNN (i := 9 * y + i) (v := dL (R x) i) (ks_set_same _ _ _) (by omega) (by omega) dX5_swap_43 rfl ?_
        refine ks_incN (c := 1) (e := i + 1) dX5_swap_44 rfl (by decide) rfl (by decide) rfl ?_
        refine ks_sub [(3, _), (0, _), (1, _), (2, _), (4, _)] rfl ?_
        refine ks_goto (tgt := 2) dX5_swap_47 (by decide) ?_
        refine ks_sub [(0, _), (1, _), (2, _), (3, _)] rfl (ih (i + 1) _ (by omega) (hu.trans ((ks_up_set _ _ (by simp)).trans (ks_up_set _ _ (by simp)))) ((ks_set_ne _ _ hF.2.2.2.1).trans ((ks_set_ne _ _ hF.2.2.2.1).trans ho)) ?_)
        rw [← layS_up R hxy (by omega)]
        exact (ks_set_same _ _ _)
  refine ks_of (by decide) rfl rfl (Nat.le_of_ble_eq_true rfl) ?_
  show ks_X l G mX5_swap d 0 [(0, .ref fo), (1, .int (nI (9 * x))), (2, .int (nI (9 * y)))] [] S _
  refine ks_iconst (x := nI 0) dX5_swap_0 (by decide) rfl ?_
  refine ks_istore_n dX5_swap_1 (by decide) rfl ?_
  refine ks_sub [(3, _), (0, _), (1, _), (2, _)] rfl ?_
  exact ks_sub [(0, _), (1, _), (2, _), (3, _)] rfl (loop 9 0 S (by decide) (ks_up.rf _ _) hF.1 (by rw [layS_0]; exact hF.2.1))
set_option maxRecDepth 100000 in
set_option maxHeartbeats 2000000 in
theorem c_fd_loadSmall {l : Launch} {G : ks_G} {d : Nat} {S : ks_S} {fo fc n : Nat} {R : Nat → Nat} (hF : fdX S fo fc n R) {o v : Nat} (ho : o < n + 5) (hv : v < 2147483648) : ks_P l G yX5_loadSmall mX5_loadSmall (d + 2) [.ref fo, .int (nI (9 * o)), .int (nI v)] S (fun z S' => z = none ∧ ks_up S S' [fc] ∧ fdX S' fo fc n (va_up R o v)) := by
  have hn := hF.2.2.1
  refine ks_of (by decide) rfl rfl (Nat.le_of_ble_eq_true rfl) ?_
  show ks_X l G mX5_loadSmall (d + 2) 0 [(0, .ref fo), (1, .int (nI (9 * o))), (2, .int (nI v))] [] S _
  refine ks_aload_n dX5_loadSmall_0 rfl rfl ?_
  refine ks_getf (T := TX5) (kf := 0) kx_121 rfl in_X5 cl_X5 (by decide) hF.1 rfl dX5_loadSmall_1 rfl ?_
  refine ks_iload_n dX5_loadSmall_4 rfl rfl ?_
  refine ks_iload_n dX5_loadSmall_5 rfl rfl ?_
  refine ks_bipush (x := nI 9) dX5_loadSmall_6 (by decide) rfl ?_
  refine ks_addN dX5_loadSmall_8 rfl ?_
  refine ks_lconst (x := lN 0) dX5_loadSmall_9 (by decide) rfl ?_
  refine ks_callS (n := 4) (M' := mJ7_fill_bad5a) (c_fillJr (d := d) (i := 9 * o) (j := 9 * o + 9) (x := lN 0) hF.2.1 (by omega) (by omega) (by omega)) kx_149 kx_150 kx_6 kx_151 (by decide +kernel) rfl (by decide) (Nat.le_of_ble_eq_true rfl) rfl dX5_loadSmall_10 rfl (fun r1 S1 h1 => ?_)
  obtain ⟨rfl, hS1⟩ := h1
  rw [lay_fill] at hS1
  subst S1
  refine ks_aload_n dX5_loadSmall_13 rfl rfl ?_
  refine ks_getf (T := TX5) (kf := 0) kx_121 rfl in_X5 cl_X5 (by decide) ((ks_set_ne _ _ hF.2.2.2.1).trans hF.1) rfl dX5_loadSmall_14 rfl ?_
  refine ks_iload_n dX5_loadSmall_17 rfl rfl ?_
  refine ks_iload_n dX5_loadSmall_18 rfl rfl ?_
  refine ks_i2lN (by omega) dX5_loadSmall_19 rfl ?_
  refine ks_ldc2 dX5_loadSmall_20 kx_120 rfl ?_
  refine ks_tl (y := lN 536870911) rfl ?_
  refine ks_landN (k := 29) (p := 536870912) (by decide) (by decide) (by decide) (by omega) dX5_loadSmall_23 rfl ?_
  refine ks_lastNN (i := 9 * o) (v := v % 536870912) (ks_set_same _ _ _) (by omega) (by omega) dX5_loadSmall_24 rfl ?_
  refine ks_aload_n dX5_loadSmall_25 rfl rfl ?_
  refine ks_getf (T := TX5) (kf := 0) kx_121 rfl in_X5 cl_X5 (by decide) ((ks_set_ne _ _ hF.2.2.2.1).trans ((ks_set_ne _ _ hF.2.2.2.1).trans hF.1)) rfl dX5_loadSmall_26 rfl ?_
  refine ks_iload_n dX5_loadSmall_29 rfl rfl ?_
  refine ks_iconst (x := nI 1) dX5_loadSmall_30 (by decide) rfl ?_
  refine ks_addN dX5_loadSmall_31 rfl ?_
  refine ks_iload_n dX5_loadSmall_32 rfl rfl ?_
  refine ks_bipush (x := nI 29) dX5_loadSmall_33 (by decide) rfl ?_
  refine ks_ushrN (k := 29) (by decide) (by omega) dX5_loadSmall_35 rfl ?_
  refine ks_i2lN (by omega) dX5_loadSmall_36 rfl ?_
  refine ks_lastNN (i := 9 * o + 1) (v := v / 2 ^ 29) (ks_set_same _ _ _) (by omega) (by omega) dX5_loadSmall_37 rfl ?_
  refine ks_ret rfl dX5_loadSmall_38 ?_
  refine ⟨rfl, (ks_up_set _ _ (by simp)).trans ((ks_up_set _ _ (by simp)).trans (ks_up_set _ _ (by simp))), hF.mk ((ks_up_set _ _ (by simp)).trans ((ks_up_set _ _ (by simp)).trans (ks_up_set _ _ (by simp)))) ?_ (Nat.lt_of_lt_of_le hv (by decide))⟩
  rw [← small_d hv R o]
  exact (ks_set_same _ _ _)
set_option maxRecDepth 100000 in
set_option maxHeartbeats 2000000 in
theorem c_fd_reduce {l : Launch} {G : ks_G} {d : Nat} {S : ks_S} {fo fc n : Nat} {R : Nat → Nat} (hF : fdX S fo fc n R) {x : Nat} (hx : x < n + 5) (hxn : x ≠ n) : ks_P l G yX5_reduce mX5_reduce (d + 1) [.ref fo, .int (nI (9 * x))] S (fun z S' => z = none ∧ ks_up S S' [fc] ∧ fdX S' fo fc n (va_up R x (if R x < R n then R x else R x - R n))) := by
  have hn := hF.2.2.1
  have bx := hF.2.2.2.2 x
  refine ks_of (by decide) rfl rfl (Nat.le_of_ble_eq_true rfl) ?_
  show ks_X l G mX5_reduce (d + 1) 0 [(0, .ref fo), (1, .int (nI (9 * x)))] [] S _
  refine ks_aload_n dX5_reduce_0 rfl rfl ?_
  refine ks_iload_n dX5_reduce_1 rfl rfl ?_
  refine ks_aload_n dX5_reduce_2 rfl rfl ?_
  refine ks_getf (T := TX5) (kf := 1) kx_123 rfl in_X5 cl_X5 (by decide) hF.1 rfl dX5_reduce_3 rfl ?_
  refine ks_callV (n := 2) (M' := mX5_isBelow) (c_fd_isBelow (d := d) (x := x) (y := n) hF hx (by omega)) hF.1 cl_X5 rfl kx_1201 kx_1202 kx_1203 kx_5 kx_1204 (by decide +kernel) rfl (by decide) (Nat.le_of_ble_eq_true rfl) rfl dX5_reduce_6 rfl (fun r1 S1 h1 => ?_)
  obtain ⟨rfl, hS1⟩ := h1
  obtain rfl := hS1.symm
  refine ks_if_neZ (tgt := 22) dX5_reduce_9 (by decide) rfl (fun h2 => ?_) (fun h2 => ?_)
  · refine ks_ret rfl dX5_reduce_22 ?_
    have h3 := of_decide_eq_true h2
    rw [if_pos h3]
    refine ⟨rfl, ks_up.rf _ _, ?_⟩
    have e : va_up R x (R x) = R := by
      funext q
      by_cases e : q = x
      · rw [e, va_up_self]
      · rw [va_up_ne _ _ e]
    rw [e]
    exact hF
  · have h3 := of_decide_eq_false h2
    refine ks_aload_n dX5_reduce_12 rfl rfl ?_
    refine ks_iload_n dX5_reduce_13 rfl rfl ?_
    refine ks_iload_n dX5_reduce_14 rfl rfl ?_
    refine ks_aload_n dX5_reduce_15 rfl rfl ?_
    refine ks_getf (T := TX5) (kf := 1) kx_123 rfl in_X5 cl_X5 (by decide) hF.1 rfl dX5_reduce_16 rfl ?_
    refine ks_callV (n := 3) (M' := mX5_subtract) (c_fd_subtract (d := d) (o := x) (x := x) (y := n) hF hx hx (by omega) hxn (by omega) (by omega)) hF.1 cl_X5 rfl kx_1209 kx_519 kx_520 kx_5 kx_521 (by decide +kernel) rfl (by decide) (Nat.le_of_ble_eq_true rfl) rfl dX5_reduce_19 rfl (fun r2 S2 h2 => ?_)
    obtain ⟨rfl, u2, f2⟩ := h2
    refine ks_ret rfl dX5_reduce_22 ?_
    rw [if_pos (by omega)] at f2
    rw [if_neg h3]
    exact ⟨rfl, u2, f2⟩
set_option maxRecDepth 100000 in
set_option maxHeartbeats 2000000 in
theorem c_fd_halve {l : Launch} {G : ks_G} {d : Nat} {S : ks_S} {fo fc n : Nat} {R : Nat → Nat} (hF : fdX S fo fc n R) {x : Nat} (hx : x < n + 5) (hxn : x ≠ n) (hs : R x + R n < 3705346855594118253554271520278013051304639509300498049262642688253220148477952) : ks_P l G yX5_halve mX5_halve d [.ref fo, .int (nI (9 * x))] S (fun z S' => z = none ∧ ks_up S S' [fc] ∧ fdX S' fo fc n (va_up R x ((if R x % 2 = 1 then R x + R n else R x) / 2))) := by
  have hn := hF.2.2.1
  have bx := hF.2.2.2.2 x
  have bn := hF.2.2.2.2 n
  have loop2 : ∀ (V : Nat), V = (if R x % 2 = 1 then R x + R n else R x) → ∀ c i (S1 : ks_S) (a b : Int64), i + c = 8 → ks_up S S1 [fc] → S1.2.2 fo = some (.inr (8, [.ref fc, .int (nI (9 * n)), .int (nI (9 * (n + 1))), .int (nI (9 * (n + 2))), .int (nI (9 * (n + 3))), .int (nI (9 * (n + 4)))])) → S1.2.2 fc = some (kL (9 * (n + 5)) (layP (va_up R x V) x (V / 2) i)) → ks_X l G mX5_halve d 86 [(0, .ref fo), (1, .int (nI (9 * x))), (2, .long a), (4, .long b), (6, .int (nI i))] [] S1 (fun z S' => z = none ∧ ks_up S S' [fc] ∧ fdX S' fo fc n (va_up R x ((if R x % 2 = 1 then R x + R n else R x) / 2))) := by
    intro V hV c
    have bV : V < 3705346855594118253554271520278013051304639509300498049262642688253220148477952 := by rw [hV]; split <;> omega
    induction c with
    | zero =>
      intro i S1 a b hi hu ho hc
      refine ks_iload dX5_halve_86 rfl rfl ?_
      refine ks_bipush (x := nI 8) dX5_halve_88 (by decide) rfl ?_
      refine ks_icmp_geN (tgt := 136) (by omega) (by decide) dX5_halve_90 (by decide) rfl (fun h1 => ?_) (fun h1 => ?_)
      · obtain rfl : i = 8 := by omega
        refine ks_aload_n dX5_halve_136 rfl rfl ?_
        refine ks_getf (T := TX5) (kf := 0) kx_121 rfl in_X5 cl_X5 (by decide) ho rfl dX5_halve_137 rfl ?_
        refine ks_iload_n dX5_halve_140 rfl rfl ?_
        refine ks_bipush (x := nI 8) dX5_halve_141 (by decide) rfl ?_
        refine ks_addN dX5_halve_143 rfl ?_
        refine ks_dup2_11 dX5_halve_144 rfl rfl rfl ?_
        refine ks_laldN (i := 9 * x + 8) hc rfl (by omega) (by omega) dX5_halve_145 rfl ?_
        rw [layP_rd _ _ _ (by decide), va_up_self]
        have d8 := dL_lt V 8
        refine ks_iconst (x := nI 1) dX5_halve_146 (by decide) rfl ?_
        refine ks_lushrN (k := 1) (by decide) (by omega) dX5_halve_147 rfl ?_
        refine ks_tl (y := lN (dL (V / 2) 8)) (congrArg lN (half_8 bV)) ?_
        refine ks_lastNN (i := 9 * x + 8) (v := dL (V / 2) 8) hc (by omega) (by omega) dX5_halve_148 rfl ?_
        refine ks_ret rfl dX5_halve_149 ?_
        refine ⟨rfl, hu.trans (ks_up_set _ _ (by simp)), ?_⟩
        rw [← hV]
        refine hF.mk (hu.trans (ks_up_set _ _ (by simp))) ?_ (by omega)
        rw [ks_set_same, layP_up, layP_9]
        congr 3
        funext q
        by_cases e : q = x
        · rw [e, va_up_self, va_up_self]
        · rw [va_up_ne _ _ e, va_up_ne _ _ e, va_up_ne _ _ e]
      · omega
    | succ c ih =>
      intro i S1 a b hi hu ho hc
      refine ks_iload dX5_halve_86 rfl rfl ?_
      refine ks_bipush (x := nI 8) dX5_halve_88 (by decide) rfl ?_
      refine ks_icmp_geN (tgt := 136) (by omega) (by decide) dX5_halve_90 (by decide) rfl (fun h1 => ?_) (fun h1 => ?_)
      · omega
      · refine ks_aload_n dX5_halve_93 rfl rfl ?_
        refine ks_getf (T := TX5) (kf := 0) kx_121 rfl in_X5 cl_X5 (by decide) ho rfl dX5_halve_94 rfl ?_
        refine ks_iload_n dX5_halve_97 rfl rfl ?_
        refine ks_iload dX5_halve_98 rfl rfl ?_
        refine ks_addN dX5_halve_100 rfl ?_
        refine ks_aload_n dX5_halve_101 rfl rfl ?_
        refine ks_getf (T := TX5) (kf := 0) kx_121 rfl in_X5 cl_X5 (by decide) ho rfl dX5_halve_102 rfl ?_
        refine ks_iload_n dX5_halve_105 rfl rfl ?_
        refine ks_iload dX5_halve_106 rfl rfl ?_
        refine ks_addN dX5_halve_108 rfl ?_
        refine ks_laldN (i := 9 * x + i) hc rfl (by omega) (by omega) dX5_halve_109 rfl ?_
        rw [layP_rd _ _ _ (by omega), va_up_self]
        have d1 := dL_lt V i
        refine ks_iconst (x := nI 1) dX5_halve_110 (by decide) rfl ?_
        refine ks_lushrN (k := 1) (by decide) (by omega) dX5_halve_111 rfl ?_
        refine ks_aload_n dX5_halve_112 rfl rfl ?_
        refine ks_getf (T := TX5) (kf := 0) kx_121 rfl in_X5 cl_X5 (by decide) ho rfl dX5_halve_113 rfl ?_
        refine ks_iload_n dX5_halve_116 rfl rfl ?_
        refine ks_iload dX5_halve_117 rfl rfl ?_
        refine ks_addN dX5_halve_119 rfl ?_
        refine ks_iconst (x := nI 1) dX5_halve_120 (by decide) rfl ?_
        refine ks_addN dX5_halve_121 rfl ?_
        refine ks_laldN (i := 9 * x + i + 1) hc rfl (by omega) (by omega) dX5_halve_122 rfl ?_
        rw [layP_rd1 _ _ _ (by omega), va_up_self]
        have d2 := dL_lt V (i + 1)
        refine ks_lconst (x := lN 1) dX5_halve_123 (by decide) rfl ?_
        refine ks_landN (k := 1) (p := 2) (by decide) (by decide) (by decide) (by omega) dX5_halve_124 rfl ?_
        refine ks_bipush (x := nI 28) dX5_halve_125 (by decide) rfl ?_
        refine ks_lshlN (k := 28) (by decide) dX5_halve_127 rfl ?_
        refine ks_lor dX5_halve_128 rfl ?_
        refine ks_tl (y := lN (dL (V / 2) i)) ((g_or' (k := 28) (p := 268435456) rfl (by omega) (by omega)).trans (congrArg lN (half_d V i))) ?_
        refine ks_lastNN (i := 9 * x + i) (v := dL (V / 2) i) hc (by omega) (by omega) dX5_halve_129 rfl ?_
        refine ks_tS (by rw [layP_up]) ?_
        refine ks_incN (c := 1) (e := i + 1) dX5_halve_130 rfl (by decide) rfl (by decide) rfl ?_
        refine ks_sub [(6, _), (0, _), (1, _), (2, _), (4, _)] rfl ?_
        refine ks_goto (tgt := 86) dX5_halve_133 (by decide) ?_
        exact ks_sub [(0, _), (1, _), (2, _), (4, _), (6, _)] rfl (ih (i + 1) _ a b (by omega) (hu.trans (ks_up_set _ _ (by simp))) ((ks_set_ne _ _ hF.2.2.2.1).trans ho) (ks_set_same _ _ _))
  have loop1 : R x % 2 = 1 → ∀ c i (S1 : ks_S), i + c = 9 → ks_up S S1 [fc] → S1.2.2 fo = some (.inr (8, [.ref fc, .int (nI (9 * n)), .int (nI (9 * (n + 1))), .int (nI (9 * (n + 2))), .int (nI (9 * (n + 3))), .int (nI (9 * (n + 4)))])) → S1.2.2 fc = some (kL (9 * (n + 5)) (layP R x (R x + R n) i)) → ks_X l G mX5_halve d 15 [(0, .ref fo), (1, .int (nI (9 * x))), (2, .long (lN 1)), (4, .long (lN (cyA (R x) (R n) i))), (6, .int (nI i))] [] S1 (fun z S' => z = none ∧ ks_up S S' [fc] ∧ fdX S' fo fc n (va_up R x ((if R x % 2 = 1 then R x + R n else R x) / 2))) := by
    intro hodd c
    induction c with
    | zero =>
      intro i S1 hi hu ho hc
      refine ks_iload dX5_halve_15 rfl rfl ?_
      refine ks_bipush (x := nI 9) dX5_halve_17 (by decide) rfl ?_
      refine ks_icmp_geN (tgt := 83) (by omega) (by decide) dX5_halve_19 (by decide) rfl (fun h1 => ?_) (fun h1 => ?_)
      · refine ks_iconst (x := nI 0) dX5_halve_83 (by decide) rfl ?_
        refine ks_istore dX5_halve_84 (by decide) rfl ?_
        refine ks_sub [(6, _), (0, _), (1, _), (2, _), (4, _)] rfl ?_
        obtain rfl : i = 9 := by omega
        rw [layP_9] at hc
        exact ks_sub [(0, _), (1, _), (2, _), (4, _), (6, _)] rfl (loop2 (R x + R n) (by rw [if_pos hodd]) 8 0 S1 _ _ (by decide) hu ho (by rw [layP_0]; exact hc))
      · omega
    | succ c ih =>
      intro i S1 hi hu ho hc
      refine ks_iload dX5_halve_15 rfl rfl ?_
      refine ks_bipush (x := nI 9) dX5_halve_17 (by decide) rfl ?_
      refine ks_icmp_geN (tgt := 83) (by omega) (by decide) dX5_halve_19 (by decide) rfl (fun h1 => ?_) (fun h1 => ?_)
      · omega
      · refine ks_lload_n dX5_halve_22 rfl rfl ?_
        refine ks_lconst (x := lN 0) dX5_halve_23 (by decide) rfl ?_
        refine ks_lif_eqN (tgt := 83) (by decide) (by decide) dX5_halve_24 rfl dX5_halve_25 (by decide) rfl (fun h2 => ?_) (fun h2 => ?_)
        · exact absurd h2 (by decide)
        · refine ks_lload dX5_halve_28 rfl rfl ?_
          refine ks_aload_n dX5_halve_30 rfl rfl ?_
          refine ks_getf (T := TX5) (kf := 0) kx_121 rfl in_X5 cl_X5 (by decide) ho rfl dX5_halve_31 rfl ?_
          refine ks_iload_n dX5_halve_34 rfl rfl ?_
          refine ks_iload dX5_halve_35 rfl rfl ?_
          refine ks_addN dX5_halve_37 rfl ?_
          refine ks_laldN (i := 9 * x + i) hc rfl (by omega) (by omega) dX5_halve_38 rfl ?_
          rw [layP_rd R x _ (x := x) (by omega)]
          have d1 := dL_lt (R x) i
          refine ks_aload_n dX5_halve_39 rfl rfl ?_
          refine ks_getf (T := TX5) (kf := 0) kx_121 rfl in_X5 cl_X5 (by decide) ho rfl dX5_halve_40 rfl ?_
          refine ks_aload_n dX5_halve_43 rfl rfl ?_
          refine ks_getf (T := TX5) (kf := 1) kx_123 rfl in_X5 cl_X5 (by decide) ho rfl dX5_halve_44 rfl ?_
          refine ks_iload dX5_halve_47 rfl rfl ?_
          refine ks_addN dX5_halve_49 rfl ?_
          refine ks_laldN (i := 9 * n + i) hc rfl (by omega) (by omega) dX5_halve_50 rfl ?_
          rw [layP_rd R x _ (x := n) (by omega)]
          have d2 := dL_lt (R n) i
          obtain ⟨s1, s2⟩ := add_step (R x) (R n) i
          have cl := cyA_le (R x) (R n) i
          refine ks_laddN dX5_halve_51 rfl ?_
          refine ks_laddN dX5_halve_52 rfl ?_
          refine ks_lstore dX5_halve_53 (by decide) rfl ?_
          refine ks_sub [(4, _), (0, _), (1, _), (2, _), (6, _)] rfl ?_
          refine ks_aload_n dX5_halve_55 rfl rfl ?_
          refine ks_getf (T := TX5) (kf := 0) kx_121 rfl in_X5 cl_X5 (by decide) ho rfl dX5_halve_56 rfl ?_
          refine ks_iload_n dX5_halve_59 rfl rfl ?_
          refine ks_iload dX5_halve_60 rfl rfl ?_
          refine ks_addN dX5_halve_62 rfl ?_
          refine ks_lload dX5_halve_63 rfl rfl ?_
          refine ks_ldc2 dX5_halve_65 kx_120 rfl ?_
          refine ks_tl (y := lN 536870911) rfl ?_
          refine ks_landN (k := 29) (p := 536870912) (by decide) (by decide) (by decide) (by omega) dX5_halve_68 rfl ?_
          refine ks_tl (y := lN (dL (R x + R n) i)) (congrArg lN s1) ?_
          refine ks_lastNN (i := 9 * x + i) (v := dL (R x + R n) i) hc (by omega) (by omega) dX5_halve_69 rfl ?_
          refine ks_tS (by rw [layP_up]) ?_
          refine ks_lload dX5_halve_70 rfl rfl ?_
          refine ks_bipush (x := nI 29) dX5_halve_72 (by decide) rfl ?_
          refine ks_lshrN (k := 29) (by decide) (by decide) (by omega) dX5_halve_74 rfl ?_
          refine ks_tl (y := lN (cyA (R x) (R n) (i + 1))) (congrArg lN s2) ?_
          refine ks_lstore dX5_halve_75 (by decide) rfl ?_
          refine ks_sub [(4, _), (0, _), (1, _), (2, _), (6, _)] rfl ?_
          refine ks_incN (c := 1) (e := i + 1) dX5_halve_77 rfl (by decide) rfl (by decide) rfl ?_
          refine ks_sub [(6, _), (0, _), (1, _), (2, _), (4, _)] rfl ?_
          refine ks_goto (tgt := 15) dX5_halve_80 (by decide) ?_
          exact ks_sub [(0, _), (1, _), (2, _), (4, _), (6, _)] rfl (ih (i + 1) _ (by omega) (hu.trans (ks_up_set _ _ (by simp))) ((ks_set_ne _ _ hF.2.2.2.1).trans ho) (ks_set_same _ _ _))
  refine ks_of (by decide) rfl rfl (Nat.le_of_ble_eq_true rfl) ?_
  show ks_X l G mX5_halve d 0 [(0, .ref fo), (1, .int (nI (9 * x)))] [] S _
  refine ks_aload_n dX5_halve_0 rfl rfl ?_
  refine ks_getf (T := TX5) (kf := 0) kx_121 rfl in_X5 cl_X5 (by decide) hF.1 rfl dX5_halve_1 rfl ?_
  refine ks_iload_n dX5_halve_4 rfl rfl ?_
  refine ks_laldN (i := 9 * x) hF.2.1 rfl (by omega) (by omega) dX5_halve_5 rfl ?_
  rw [lay_0, dL_0]
  refine ks_lconst (x := lN 1) dX5_halve_6 (by decide) rfl ?_
  refine ks_landN (k := 1) (p := 2) (by decide) (by decide) (by decide) (by omega) dX5_halve_7 rfl ?_
  refine ks_tl (y := lN (R x % 2)) (congrArg lN (by omega)) ?_
  refine ks_lstore_n dX5_halve_8 (by decide) rfl ?_
  refine ks_sub [(2, _), (0, _), (1, _)] rfl ?_
  refine ks_lconst (x := lN 0) dX5_halve_9 (by decide) rfl ?_
  refine ks_lstore dX5_halve_10 (by decide) rfl ?_
  refine ks_sub [(4, _), (0, _), (1, _), (2, _)] rfl ?_
  refine ks_iconst (x := nI 0) dX5_halve_12 (by decide) rfl ?_
  refine ks_istore dX5_halve_13 (by decide) rfl ?_
  refine ks_sub [(6, _), (0, _), (1, _), (2, _), (4, _)] rfl ?_
  rcases Nat.mod_two_eq_zero_or_one (R x) with h0 | h0
  · rw [show lN (R x % 2) = lN 0 by rw [h0]]
    refine ks_iload dX5_halve_15 rfl rfl ?_
    refine ks_bipush (x := nI 9) dX5_halve_17 (by decide) rfl ?_
    refine ks_icmp_geN (tgt := 83) (by decide) (by decide) dX5_halve_19 (by decide) rfl (fun h1 => ?_) (fun h1 => ?_)
    · exact absurd h1 (by decide)
    · refine ks_lload_n dX5_halve_22 rfl rfl ?_
      refine ks_lconst (x := lN 0) dX5_halve_23 (by decide) rfl ?_
      refine ks_lif_eqN (tgt := 83) (by decide) (by decide) dX5_halve_24 rfl dX5_halve_25 (by decide) rfl (fun h2 => ?_) (fun h2 => ?_)
      · refine ks_iconst (x := nI 0) dX5_halve_83 (by decide) rfl ?_
        refine ks_istore dX5_halve_84 (by decide) rfl ?_
        refine ks_sub [(6, _), (0, _), (1, _), (2, _), (4, _)] rfl ?_
        refine ks_sub [(0, _), (1, _), (2, _), (4, _), (6, _)] rfl (loop2 (R x) (by rw [if_neg (by omega)]) 8 0 S _ _ (by decide) (ks_up.rf _ _) hF.1 ?_)
        rw [layP_0]
        have e : va_up R x (R x) = R := by
          funext q
          by_cases e : q = x
          · rw [e, va_up_self]
          · rw [va_up_ne _ _ e]
        rw [e]
        exact hF.2.1
      · exact absurd rfl h2
  · rw [show lN (R x % 2) = lN 1 by rw [h0]]
    have h7 := loop1 h0 9 0 S (by decide) (ks_up.rf _ _) hF.1 (by rw [layP_0]; exact hF.2.1)
    rw [cyA_0] at h7
    exact ks_sub [(0, _), (1, _), (2, _), (4, _), (6, _)] rfl h7
