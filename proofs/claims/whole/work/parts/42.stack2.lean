/-! STACK: lift, the other stack, flags, comparisons -/
theorem stE_erase (ar fa fc : Nat → Nat) : ∀ (n k : Nat), k < n → (stE ar fa fc n).eraseIdx k = stE ar (va_cpy fa fa (n - 1 - k + 1) (n - 1 - k) k) (va_cpy fc fc (n - 1 - k + 1) (n - 1 - k) k) (n - 1)
  | 0, k, h => absurd h (Nat.not_lt_zero k)
  | n + 1, 0, h => by
    rw [stE, List.eraseIdx_cons_zero]
    refine stE_congr (fun i hi => ?_)
    rw [pk_cpy_out (by omega), pk_cpy_out (by omega)]
    exact ⟨rfl, rfl, fun j _ => rfl⟩
  | n + 1, k + 1, h => by
    obtain ⟨q, rfl⟩ : ∃ q, n = q + 1 := ⟨n - 1, by omega⟩
    rw [stE, List.eraseIdx_cons_succ, stE_erase ar fa fc (q + 1) k (by omega), show q + 1 + 1 - 1 = q + 1 from rfl, stE]
    congr 1
    · rw [pk_cpy_in (by omega) (by omega), pk_cpy_in (by omega) (by omega)]
      congr 2 <;> omega
    · refine stE_congr (fun i hi => ?_)
      have e1 : ∀ f : Nat → Nat, va_cpy f f (q + 1 - 1 - k + 1) (q + 1 - 1 - k) k i = va_cpy f f (q + 1 - (k + 1) + 1) (q + 1 - (k + 1)) (k + 1) i := fun f => by
        unfold va_cpy
        by_cases e : q - k ≤ i
        · rw [if_pos (by omega), if_pos (by omega)]; congr 1; omega
        · rw [if_neg (by omega), if_neg (by omega)]
      exact ⟨e1 fa, e1 fc, fun j _ => rfl⟩
set_option maxRecDepth 100000 in
set_option maxHeartbeats 2000000 in
theorem c_st_lift {l : Launch} {G : ks_G} {d : Nat} {S : ks_S} {xs ys : List (List Nat)} {u : Nat} (hO : st_ok S xs ys u) {c : Nat} {x : List Nat} (hc : xs[c]? = some x) : ks_P l G yX8_lift mX8_lift (d + 1) [.ref 29, .int (nI c)] S (fun z S' => z = some (.int (ks_bo true)) ∧ stU S S' u ∧ st_ok S' (x :: xs.eraseIdx c) ys u) := by
  obtain ⟨n, o, ar, dt, fa, fc, oa, oc, hX, hx, hy⟩ := hO
  have b1 := hX.2.2.2.2.2.2.2.2.2.1
  have b2 := hX.2.2.2.2.2.2.2.2.2.2.1
  have b3 := hX.2.2.2.2.2.2.2.2.2.2.2.1
  have lx : xs.length = n := by rw [hx, stE_len]
  have ly : ys.length = o := by rw [hy, stE_len]
  have hcn : c < n := by
    apply Nat.lt_of_not_le
    intro h9
    rw [List.getElem?_eq_none (by rw [lx]; exact h9)] at hc
    cases hc
  rw [hx, stE_at ar fa fc n c hcn] at hc
  obtain rfl := Option.some.inj hc
  refine ks_of (by decide) rfl rfl (Nat.le_of_ble_eq_true rfl) ?_
  show ks_X l G mX8_lift (d + 1) 0 [(0, .ref 29), (1, .int (nI c))] [] S _
  refine ks_iload_n dX8_lift_0 rfl rfl ?_
  refine ks_if_ltN (tgt := 12) (by omega) dX8_lift_1 (by decide) rfl ?_
  refine ks_iload_n dX8_lift_4 rfl rfl ?_
  refine ks_aload_n dX8_lift_5 rfl rfl ?_
  refine ks_getf (T := TX8) (kf := 3) kx_614 rfl in_X8 cl_X8 (by decide) hX.1 rfl dX8_lift_6 rfl ?_
  refine ks_icmp_ltN (tgt := 14) (by omega) (by omega) dX8_lift_9 (by decide) rfl (fun hc9 => ?_) (fun hc9 => ?_)
  · refine ks_aload_n dX8_lift_14 rfl rfl ?_
    refine ks_getf (T := TX8) (kf := 3) kx_614 rfl in_X8 cl_X8 (by decide) hX.1 rfl dX8_lift_15 rfl ?_
    refine ks_iconst (x := nI 1) dX8_lift_18 (by decide) rfl ?_
    refine ks_subN (by omega) dX8_lift_19 rfl ?_
    refine ks_iload_n dX8_lift_20 rfl rfl ?_
    refine ks_subN (by omega) dX8_lift_21 rfl ?_
    refine ks_istore_n dX8_lift_22 (by decide) rfl ?_
    refine ks_sub [(2, _), (0, _), (1, _)] rfl ?_
    refine ks_aload_n dX8_lift_23 rfl rfl ?_
    refine ks_getf (T := TX8) (kf := 1) kx_610 rfl in_X8 cl_X8 (by decide) hX.1 rfl dX8_lift_24 rfl ?_
    refine ks_iload_n dX8_lift_27 rfl rfl ?_
    refine ks_ialdN (i := n - 1 - c) hX.2.2.1 rfl (by omega) (by decide) dX8_lift_28 rfl ?_
    refine ks_istore_n dX8_lift_29 (by decide) rfl ?_
    refine ks_sub [(3, _), (0, _), (1, _), (2, _)] rfl ?_
    refine ks_aload_n dX8_lift_30 rfl rfl ?_
    refine ks_getf (T := TX8) (kf := 2) kx_612 rfl in_X8 cl_X8 (by decide) hX.1 rfl dX8_lift_31 rfl ?_
    refine ks_iload_n dX8_lift_34 rfl rfl ?_
    refine ks_ialdN (i := n - 1 - c) hX.2.2.2.1 rfl (by omega) (by decide) dX8_lift_35 rfl ?_
    refine ks_istore dX8_lift_36 (by decide) rfl ?_
    refine ks_sub [(4, _), (0, _), (1, _), (2, _), (3, _)] rfl ?_
    refine ks_aload_n dX8_lift_38 rfl rfl ?_
    refine ks_getf (T := TX8) (kf := 1) kx_610 rfl in_X8 cl_X8 (by decide) hX.1 rfl dX8_lift_39 rfl ?_
    refine ks_iload_n dX8_lift_42 rfl rfl ?_
    refine ks_iconst (x := nI 1) dX8_lift_43 (by decide) rfl ?_
    refine ks_addN dX8_lift_44 rfl ?_
    refine ks_aload_n dX8_lift_45 rfl rfl ?_
    refine ks_getf (T := TX8) (kf := 1) kx_610 rfl in_X8 cl_X8 (by decide) hX.1 rfl dX8_lift_46 rfl ?_
    refine ks_iload_n dX8_lift_49 rfl rfl ?_
    refine ks_iload_n dX8_lift_50 rfl rfl ?_
    refine ks_copyi (n := c) (dp := n - 1 - c) (sp := (n - 1 - c) + 1) (t := 1) rfl (fun h => by first | rfl | cases h) rfl (by decide) hX.2.2.1 hX.2.2.1 (by omega) (by omega) (by decide) (by decide) (fun _ => rfl) kx_1583 kx_275 kx_274 kx_17 (by omega) (Nat.le_of_ble_eq_true rfl) dX8_lift_51 rfl ?_
    refine ks_tS (by rw [kN_cpy]) ?_
    refine ks_aload_n dX8_lift_54 rfl rfl ?_
    refine ks_getf (T := TX8) (kf := 2) kx_612 rfl in_X8 cl_X8 (by decide) ((ks_set_ne _ _ (by decide)).trans hX.1) rfl dX8_lift_55 rfl ?_
    refine ks_iload_n dX8_lift_58 rfl rfl ?_
    refine ks_iconst (x := nI 1) dX8_lift_59 (by decide) rfl ?_
    refine ks_addN dX8_lift_60 rfl ?_
    refine ks_aload_n dX8_lift_61 rfl rfl ?_
    refine ks_getf (T := TX8) (kf := 2) kx_612 rfl in_X8 cl_X8 (by decide) ((ks_set_ne _ _ (by decide)).trans hX.1) rfl dX8_lift_62 rfl ?_
    refine ks_iload_n dX8_lift_65 rfl rfl ?_
    refine ks_iload_n dX8_lift_66 rfl rfl ?_
    refine ks_copyi (n := c) (dp := n - 1 - c) (sp := (n - 1 - c) + 1) (t := 1) rfl (fun h => by first | rfl | cases h) rfl (by decide) ((ks_set_ne _ _ (by decide)).trans hX.2.2.2.1) ((ks_set_ne _ _ (by decide)).trans hX.2.2.2.1) (by omega) (by omega) (by decide) (by decide) (fun _ => rfl) kx_1583 kx_275 kx_274 kx_17 (by omega) (Nat.le_of_ble_eq_true rfl) dX8_lift_67 rfl ?_
    refine ks_tS (by rw [kN_cpy]) ?_
    refine ks_aload_n dX8_lift_70 rfl rfl ?_
    refine ks_getf (T := TX8) (kf := 1) kx_610 rfl in_X8 cl_X8 (by decide) ((ks_set_ne _ _ (by decide)).trans ((ks_set_ne _ _ (by decide)).trans hX.1)) rfl dX8_lift_71 rfl ?_
    refine ks_aload_n dX8_lift_74 rfl rfl ?_
    refine ks_getf (T := TX8) (kf := 3) kx_614 rfl in_X8 cl_X8 (by decide) ((ks_set_ne _ _ (by decide)).trans ((ks_set_ne _ _ (by decide)).trans hX.1)) rfl dX8_lift_75 rfl ?_
    refine ks_iconst (x := nI 1) dX8_lift_78 (by decide) rfl ?_
    refine ks_subN (by omega) dX8_lift_79 rfl ?_
    refine ks_iload_n dX8_lift_80 rfl rfl ?_
    refine ks_iastNN (i := n - 1) (v := fa (n - 1 - c)) (by decide) ((ks_set_ne _ _ (by decide)).trans (ks_set_same _ _ _)) (by omega) (by decide) dX8_lift_81 rfl ?_
    refine ks_aload_n dX8_lift_82 rfl rfl ?_
    refine ks_getf (T := TX8) (kf := 2) kx_612 rfl in_X8 cl_X8 (by decide) ((ks_set_ne _ _ (by decide)).trans ((ks_set_ne _ _ (by decide)).trans ((ks_set_ne _ _ (by decide)).trans hX.1))) rfl dX8_lift_83 rfl ?_
    refine ks_aload_n dX8_lift_86 rfl rfl ?_
    refine ks_getf (T := TX8) (kf := 3) kx_614 rfl in_X8 cl_X8 (by decide) ((ks_set_ne _ _ (by decide)).trans ((ks_set_ne _ _ (by decide)).trans ((ks_set_ne _ _ (by decide)).trans hX.1))) rfl dX8_lift_87 rfl ?_
    refine ks_iconst (x := nI 1) dX8_lift_90 (by decide) rfl ?_
    refine ks_subN (by omega) dX8_lift_91 rfl ?_
    refine ks_iload dX8_lift_92 rfl rfl ?_
    refine ks_iastNN (i := n - 1) (v := fc (n - 1 - c)) (by decide) ((ks_set_ne _ _ (by decide)).trans (ks_set_same _ _ _)) (by omega) (by decide) dX8_lift_94 rfl ?_
    refine ks_iconst (x := nI 1) dX8_lift_95 (by decide) rfl ?_
    refine ks_zret rfl rfl dX8_lift_96 ?_
    refine ⟨rfl, stU.of ((((ks_up_set _ _ (by decide)).trans (ks_up_set _ _ (by decide))).trans (ks_up_set _ _ (by decide))).trans (ks_up_set _ _ (by decide))), n, o, ar, dt, (va_up (va_cpy fa fa (n - 1 - c + 1) (n - 1 - c) c) (n - 1) (fa (n - 1 - c))), (va_up (va_cpy fc fc (n - 1 - c + 1) (n - 1 - c) c) (n - 1) (fc (n - 1 - c))), oa, oc, ⟨((ks_set_ne _ _ (by decide)).trans ((ks_set_ne _ _ (by decide)).trans ((ks_set_ne _ _ (by decide)).trans ((ks_set_ne _ _ (by decide)).trans hX.1)))), ((ks_set_ne _ _ (by decide)).trans ((ks_set_ne _ _ (by decide)).trans ((ks_set_ne _ _ (by decide)).trans ((ks_set_ne _ _ (by decide)).trans hX.2.1)))), ((ks_set_ne _ _ (by decide)).trans (ks_set_same _ _ _)), (ks_set_same _ _ _), ((ks_set_ne _ _ (by decide)).trans ((ks_set_ne _ _ (by decide)).trans ((ks_set_ne _ _ (by decide)).trans ((ks_set_ne _ _ (by decide)).trans hX.2.2.2.2.1)))), ((ks_set_ne _ _ (by decide)).trans ((ks_set_ne _ _ (by decide)).trans ((ks_set_ne _ _ (by decide)).trans ((ks_set_ne _ _ (by decide)).trans hX.2.2.2.2.2.1)))), ((ks_set_ne _ _ (by decide)).trans ((ks_set_ne _ _ (by decide)).trans ((ks_set_ne _ _ (by decide)).trans ((ks_set_ne _ _ (by decide)).trans hX.2.2.2.2.2.2.1)))), hX.2.2.2.2.2.2.2.1, hX.2.2.2.2.2.2.2.2.1, b1, b2, b3, ?_, hX.2.2.2.2.2.2.2.2.2.2.2.2.2⟩, ?_, hy⟩
    · intro i hi
      by_cases e : i = n - 1
      · subst e; rw [va_up_self, va_up_self]; exact hX.2.2.2.2.2.2.2.2.2.2.2.2.1 _ (by omega)
      · rw [va_up_ne _ _ e, va_up_ne _ _ e]
        unfold va_cpy
        split
        · exact hX.2.2.2.2.2.2.2.2.2.2.2.2.1 _ (by omega)
        · exact hX.2.2.2.2.2.2.2.2.2.2.2.2.1 _ (by omega)
    · obtain ⟨q, rfl⟩ : ∃ q, n = q + 1 := ⟨n - 1, by omega⟩
      rw [hx, stE_erase ar fa fc (q + 1) c hcn]
      simp only [Nat.add_sub_cancel]
      rw [stE, va_up_self, va_up_self]
      congr 1
      refine stE_congr (fun i hi => ?_)
      rw [va_up_ne _ _ (by omega), va_up_ne _ _ (by omega)]
      exact ⟨rfl, rfl, fun j _ => rfl⟩
  · refine ks_iconst (x := nI 0) dX8_lift_12 (by decide) rfl ?_
    refine ks_zret rfl rfl dX8_lift_13 ?_
    omega
set_option maxRecDepth 100000 in
set_option maxHeartbeats 2000000 in
theorem c_st_putAside {l : Launch} {G : ks_G} {d : Nat} {S : ks_S} {xs ys : List (List Nat)} {u : Nat} (hO : st_ok S xs ys u) {x : List Nat} {r : List (List Nat)} (hc : xs = x :: r) (hl : ys.length < 1004) : ks_P l G yX8_putAside mX8_putAside d [.ref 29] S (fun z S' => z = some (.int (ks_bo true)) ∧ stU S S' u ∧ st_ok S' r (x :: ys) u) := by
  obtain ⟨n, o, ar, dt, fa, fc, oa, oc, hX, hx, hy⟩ := hO
  have b1 := hX.2.2.2.2.2.2.2.2.2.1
  have b2 := hX.2.2.2.2.2.2.2.2.2.2.1
  have b3 := hX.2.2.2.2.2.2.2.2.2.2.2.1
  have lx : xs.length = n := by rw [hx, stE_len]
  have ly : ys.length = o := by rw [hy, stE_len]
  rw [ly] at hl
  obtain ⟨q, rfl⟩ : ∃ q, n = q + 1 := ⟨n - 1, by rw [hc] at lx; simp at lx; omega⟩
  rw [hx, stE] at hc
  injection hc with hc1 hc2
  refine ks_of (by decide) rfl rfl (Nat.le_of_ble_eq_true rfl) ?_
  show ks_X l G mX8_putAside d 0 [(0, .ref 29)] [] S _
  refine ks_aload_n dX8_putAside_0 rfl rfl ?_
  refine ks_getf (T := TX8) (kf := 3) kx_614 rfl in_X8 cl_X8 (by decide) hX.1 rfl dX8_putAside_1 rfl ?_
  refine ks_if_eqN (tgt := 17) (by omega) dX8_putAside_4 (by decide) rfl (fun hc4 => ?_) (fun hc4 => ?_)
  · refine ks_iconst (x := nI 0) dX8_putAside_17 (by decide) rfl ?_
    refine ks_zret rfl rfl dX8_putAside_18 ?_
    omega
  · refine ks_aload_n dX8_putAside_7 rfl rfl ?_
    refine ks_getf (T := TX8) (kf := 5) kx_617 rfl in_X8 cl_X8 (by decide) hX.1 rfl dX8_putAside_8 rfl ?_
    refine ks_sipush (x := nI 1004) dX8_putAside_11 (by decide) rfl ?_
    refine ks_icmp_ltN (tgt := 19) (by omega) (by decide) dX8_putAside_14 (by decide) rfl (fun hc14 => ?_) (fun hc14 => ?_)
    · refine ks_aload_n dX8_putAside_19 rfl rfl ?_
      refine ks_dup dX8_putAside_20 rfl rfl ?_
      refine ks_getf (T := TX8) (kf := 3) kx_614 rfl in_X8 cl_X8 (by decide) hX.1 rfl dX8_putAside_21 rfl ?_
      refine ks_iconst (x := nI 1) dX8_putAside_24 (by decide) rfl ?_
      refine ks_subN (by omega) dX8_putAside_25 rfl ?_
      refine ks_putf (T := TX8) (kf := 3) kx_614 rfl in_X8 tyX8_ok nmX8 cl_X8 (by decide) hX.1 (Nat.le_of_ble_eq_true rfl) rfl rfl rfl rfl dX8_putAside_26 rfl ?_
      refine ks_aload_n dX8_putAside_29 rfl rfl ?_
      refine ks_getf (T := TX8) (kf := 6) kx_618 rfl in_X8 cl_X8 (by decide) (ks_set_same _ _ _) rfl dX8_putAside_30 rfl ?_
      refine ks_aload_n dX8_putAside_33 rfl rfl ?_
      refine ks_getf (T := TX8) (kf := 5) kx_617 rfl in_X8 cl_X8 (by decide) (ks_set_same _ _ _) rfl dX8_putAside_34 rfl ?_
      refine ks_aload_n dX8_putAside_37 rfl rfl ?_
      refine ks_getf (T := TX8) (kf := 1) kx_610 rfl in_X8 cl_X8 (by decide) (ks_set_same _ _ _) rfl dX8_putAside_38 rfl ?_
      refine ks_aload_n dX8_putAside_41 rfl rfl ?_
      refine ks_getf (T := TX8) (kf := 3) kx_614 rfl in_X8 cl_X8 (by decide) (ks_set_same _ _ _) rfl dX8_putAside_42 rfl ?_
      refine ks_ialdN (i := q + 1 - 1) ((ks_set_ne _ _ (by decide)).trans hX.2.2.1) rfl (by omega) (by decide) dX8_putAside_45 rfl ?_
      refine ks_iastNN (i := o) (v := fa (q + 1 - 1)) (by decide) ((ks_set_ne _ _ (by decide)).trans hX.2.2.2.2.1) (by omega) (by decide) dX8_putAside_46 rfl ?_
      refine ks_aload_n dX8_putAside_47 rfl rfl ?_
      refine ks_getf (T := TX8) (kf := 7) kx_619 rfl in_X8 cl_X8 (by decide) ((ks_set_ne _ _ (by decide)).trans (ks_set_same _ _ _)) rfl dX8_putAside_48 rfl ?_
      refine ks_aload_n dX8_putAside_51 rfl rfl ?_
      refine ks_getf (T := TX8) (kf := 5) kx_617 rfl in_X8 cl_X8 (by decide) ((ks_set_ne _ _ (by decide)).trans (ks_set_same _ _ _)) rfl dX8_putAside_52 rfl ?_
      refine ks_aload_n dX8_putAside_55 rfl rfl ?_
      refine ks_getf (T := TX8) (kf := 2) kx_612 rfl in_X8 cl_X8 (by decide) ((ks_set_ne _ _ (by decide)).trans (ks_set_same _ _ _)) rfl dX8_putAside_56 rfl ?_
      refine ks_aload_n dX8_putAside_59 rfl rfl ?_
      refine ks_getf (T := TX8) (kf := 3) kx_614 rfl in_X8 cl_X8 (by decide) ((ks_set_ne _ _ (by decide)).trans (ks_set_same _ _ _)) rfl dX8_putAside_60 rfl ?_
      refine ks_ialdN (i := q + 1 - 1) ((ks_set_ne _ _ (by decide)).trans ((ks_set_ne _ _ (by decide)).trans hX.2.2.2.1)) rfl (by omega) (by decide) dX8_putAside_63 rfl ?_
      refine ks_iastNN (i := o) (v := fc (q + 1 - 1)) (by decide) ((ks_set_ne _ _ (by decide)).trans ((ks_set_ne _ _ (by decide)).trans hX.2.2.2.2.2.1)) (by omega) (by decide) dX8_putAside_64 rfl ?_
      refine ks_aload_n dX8_putAside_65 rfl rfl ?_
      refine ks_dup dX8_putAside_66 rfl rfl ?_
      refine ks_getf (T := TX8) (kf := 5) kx_617 rfl in_X8 cl_X8 (by decide) ((ks_set_ne _ _ (by decide)).trans ((ks_set_ne _ _ (by decide)).trans (ks_set_same _ _ _))) rfl dX8_putAside_67 rfl ?_
      refine ks_iconst (x := nI 1) dX8_putAside_70 (by decide) rfl ?_
      refine ks_addN dX8_putAside_71 rfl ?_
      refine ks_putf (T := TX8) (kf := 5) kx_617 rfl in_X8 tyX8_ok nmX8 cl_X8 (by decide) ((ks_set_ne _ _ (by decide)).trans ((ks_set_ne _ _ (by decide)).trans (ks_set_same _ _ _))) (Nat.le_of_ble_eq_true rfl) rfl rfl rfl rfl dX8_putAside_72 rfl ?_
      refine ks_iconst (x := nI 1) dX8_putAside_75 (by decide) rfl ?_
      refine ks_zret rfl rfl dX8_putAside_76 ?_
      refine ⟨rfl, stU.of ((((ks_up_set _ _ (by decide)).trans (ks_up_set _ _ (by decide))).trans (ks_up_set _ _ (by decide))).trans (ks_up_set _ _ (by decide))), q, o + 1, ar, dt, fa, fc, va_up oa o (fa q), va_up oc o (fc q), ⟨(ks_set_same _ _ _), ((ks_set_ne _ _ (by decide)).trans ((ks_set_ne _ _ (by decide)).trans ((ks_set_ne _ _ (by decide)).trans ((ks_set_ne _ _ (by decide)).trans hX.2.1)))), ((ks_set_ne _ _ (by decide)).trans ((ks_set_ne _ _ (by decide)).trans ((ks_set_ne _ _ (by decide)).trans ((ks_set_ne _ _ (by decide)).trans hX.2.2.1)))), ((ks_set_ne _ _ (by decide)).trans ((ks_set_ne _ _ (by decide)).trans ((ks_set_ne _ _ (by decide)).trans ((ks_set_ne _ _ (by decide)).trans hX.2.2.2.1)))), ((ks_set_ne _ _ (by decide)).trans ((ks_set_ne _ _ (by decide)).trans (ks_set_same _ _ _))), ((ks_set_ne _ _ (by decide)).trans (ks_set_same _ _ _)), ((ks_set_ne _ _ (by decide)).trans ((ks_set_ne _ _ (by decide)).trans ((ks_set_ne _ _ (by decide)).trans ((ks_set_ne _ _ (by decide)).trans hX.2.2.2.2.2.2.1)))), hX.2.2.2.2.2.2.2.1, hX.2.2.2.2.2.2.2.2.1, by omega, b2, by omega, fun i hi => hX.2.2.2.2.2.2.2.2.2.2.2.2.1 i (by omega), ?_⟩, hc2.symm, ?_⟩
      · intro i hi
        by_cases e : i = o
        · subst e; rw [va_up_self, va_up_self]; exact hX.2.2.2.2.2.2.2.2.2.2.2.2.1 _ (by omega)
        · rw [va_up_ne _ _ e, va_up_ne _ _ e]; exact hX.2.2.2.2.2.2.2.2.2.2.2.2.2 i (by omega)
      · rw [stE, va_up_self, va_up_self, hc1, hy]
        congr 1
        refine stE_congr (fun i hi => ?_)
        rw [va_up_ne _ _ (by omega), va_up_ne _ _ (by omega)]
        exact ⟨rfl, rfl, fun j hj => rfl⟩
    · refine ks_iconst (x := nI 0) dX8_putAside_17 (by decide) rfl ?_
      refine ks_zret rfl rfl dX8_putAside_18 ?_
      omega
set_option maxRecDepth 100000 in
set_option maxHeartbeats 2000000 in
theorem c_st_takeBack {l : Launch} {G : ks_G} {d : Nat} {S : ks_S} {xs ys : List (List Nat)} {u : Nat} (hO : st_ok S xs ys u) (hl : xs.length < 1004) : ks_P l G yX8_takeBack mX8_takeBack d [.ref 29] S (fun z S' => (ys = [] ∧ z = some (.int (ks_bo false)) ∧ S' = S) ∨ ∃ x r, ys = x :: r ∧ z = some (.int (ks_bo true)) ∧ stU S S' u ∧ st_ok S' (x :: xs) r u) := by
  obtain ⟨n, o, ar, dt, fa, fc, oa, oc, hX, hx, hy⟩ := hO
  have b1 := hX.2.2.2.2.2.2.2.2.2.1
  have b2 := hX.2.2.2.2.2.2.2.2.2.2.1
  have b3 := hX.2.2.2.2.2.2.2.2.2.2.2.1
  have lx : xs.length = n := by rw [hx, stE_len]
  have ly : ys.length = o := by rw [hy, stE_len]
  rw [lx] at hl
  refine ks_of (by decide) rfl rfl (Nat.le_of_ble_eq_true rfl) ?_
  show ks_X l G mX8_takeBack d 0 [(0, .ref 29)] [] S _
  refine ks_aload_n dX8_takeBack_0 rfl rfl ?_
  refine ks_getf (T := TX8) (kf := 5) kx_617 rfl in_X8 cl_X8 (by decide) hX.1 rfl dX8_takeBack_1 rfl ?_
  refine ks_if_eqN (tgt := 17) (by omega) dX8_takeBack_4 (by decide) rfl (fun hc4 => ?_) (fun hc4 => ?_)
  · refine ks_iconst (x := nI 0) dX8_takeBack_17 (by decide) rfl ?_
    refine ks_zret rfl rfl dX8_takeBack_18 ?_
    first | omega | (subst hc4; exact Or.inl ⟨hy, rfl, rfl⟩)
  · refine ks_aload_n dX8_takeBack_7 rfl rfl ?_
    refine ks_getf (T := TX8) (kf := 3) kx_614 rfl in_X8 cl_X8 (by decide) hX.1 rfl dX8_takeBack_8 rfl ?_
    refine ks_sipush (x := nI 1004) dX8_takeBack_11 (by decide) rfl ?_
    refine ks_icmp_ltN (tgt := 19) (by omega) (by decide) dX8_takeBack_14 (by decide) rfl (fun hc14 => ?_) (fun hc14 => ?_)
    · refine ks_aload_n dX8_takeBack_19 rfl rfl ?_
      refine ks_dup dX8_takeBack_20 rfl rfl ?_
      refine ks_getf (T := TX8) (kf := 5) kx_617 rfl in_X8 cl_X8 (by decide) hX.1 rfl dX8_takeBack_21 rfl ?_
      refine ks_iconst (x := nI 1) dX8_takeBack_24 (by decide) rfl ?_
      refine ks_subN (by omega) dX8_takeBack_25 rfl ?_
      refine ks_putf (T := TX8) (kf := 5) kx_617 rfl in_X8 tyX8_ok nmX8 cl_X8 (by decide) hX.1 (Nat.le_of_ble_eq_true rfl) rfl rfl rfl rfl dX8_takeBack_26 rfl ?_
      refine ks_aload_n dX8_takeBack_29 rfl rfl ?_
      refine ks_getf (T := TX8) (kf := 1) kx_610 rfl in_X8 cl_X8 (by decide) (ks_set_same _ _ _) rfl dX8_takeBack_30 rfl ?_
      refine ks_aload_n dX8_takeBack_33 rfl rfl ?_
      refine ks_getf (T := TX8) (kf := 3) kx_614 rfl in_X8 cl_X8 (by decide) (ks_set_same _ _ _) rfl dX8_takeBack_34 rfl ?_
      refine ks_aload_n dX8_takeBack_37 rfl rfl ?_
      refine ks_getf (T := TX8) (kf := 6) kx_618 rfl in_X8 cl_X8 (by decide) (ks_set_same _ _ _) rfl dX8_takeBack_38 rfl ?_
      refine ks_aload_n dX8_takeBack_41 rfl rfl ?_
      refine ks_getf (T := TX8) (kf := 5) kx_617 rfl in_X8 cl_X8 (by decide) (ks_set_same _ _ _) rfl dX8_takeBack_42 rfl ?_
      refine ks_ialdN (i := o - 1) ((ks_set_ne _ _ (by decide)).trans hX.2.2.2.2.1) rfl (by omega) (by decide) dX8_takeBack_45 rfl ?_
      refine ks_iastNN (i := n) (v := oa (o - 1)) (by decide) ((ks_set_ne _ _ (by decide)).trans hX.2.2.1) (by omega) (by decide) dX8_takeBack_46 rfl ?_
      refine ks_aload_n dX8_takeBack_47 rfl rfl ?_
      refine ks_getf (T := TX8) (kf := 2) kx_612 rfl in_X8 cl_X8 (by decide) ((ks_set_ne _ _ (by decide)).trans (ks_set_same _ _ _)) rfl dX8_takeBack_48 rfl ?_
      refine ks_aload_n dX8_takeBack_51 rfl rfl ?_
      refine ks_getf (T := TX8) (kf := 3) kx_614 rfl in_X8 cl_X8 (by decide) ((ks_set_ne _ _ (by decide)).trans (ks_set_same _ _ _)) rfl dX8_takeBack_52 rfl ?_
      refine ks_aload_n dX8_takeBack_55 rfl rfl ?_
      refine ks_getf (T := TX8) (kf := 7) kx_619 rfl in_X8 cl_X8 (by decide) ((ks_set_ne _ _ (by decide)).trans (ks_set_same _ _ _)) rfl dX8_takeBack_56 rfl ?_
      refine ks_aload_n dX8_takeBack_59 rfl rfl ?_
      refine ks_getf (T := TX8) (kf := 5) kx_617 rfl in_X8 cl_X8 (by decide) ((ks_set_ne _ _ (by decide)).trans (ks_set_same _ _ _)) rfl dX8_takeBack_60 rfl ?_
      refine ks_ialdN (i := o - 1) ((ks_set_ne _ _ (by decide)).trans ((ks_set_ne _ _ (by decide)).trans hX.2.2.2.2.2.1)) rfl (by omega) (by decide) dX8_takeBack_63 rfl ?_
      refine ks_iastNN (i := n) (v := oc (o - 1)) (by decide) ((ks_set_ne _ _ (by decide)).trans ((ks_set_ne _ _ (by decide)).trans hX.2.2.2.1)) (by omega) (by decide) dX8_takeBack_64 rfl ?_
      refine ks_aload_n dX8_takeBack_65 rfl rfl ?_
      refine ks_dup dX8_takeBack_66 rfl rfl ?_
      refine ks_getf (T := TX8) (kf := 3) kx_614 rfl in_X8 cl_X8 (by decide) ((ks_set_ne _ _ (by decide)).trans ((ks_set_ne _ _ (by decide)).trans (ks_set_same _ _ _))) rfl dX8_takeBack_67 rfl ?_
      refine ks_iconst (x := nI 1) dX8_takeBack_70 (by decide) rfl ?_
      refine ks_addN dX8_takeBack_71 rfl ?_
      refine ks_putf (T := TX8) (kf := 3) kx_614 rfl in_X8 tyX8_ok nmX8 cl_X8 (by decide) ((ks_set_ne _ _ (by decide)).trans ((ks_set_ne _ _ (by decide)).trans (ks_set_same _ _ _))) (Nat.le_of_ble_eq_true rfl) rfl rfl rfl rfl dX8_takeBack_72 rfl ?_
      refine ks_iconst (x := nI 1) dX8_takeBack_75 (by decide) rfl ?_
      refine ks_zret rfl rfl dX8_takeBack_76 ?_
      obtain ⟨q, rfl⟩ : ∃ q, o = q + 1 := ⟨o - 1, by omega⟩
      refine Or.inr ⟨bytL ar (oa q) (oc q), stE ar oa oc q, by rw [hy, stE], rfl, stU.of ((((ks_up_set _ _ (by decide)).trans (ks_up_set _ _ (by decide))).trans (ks_up_set _ _ (by decide))).trans (ks_up_set _ _ (by decide))), n + 1, q, ar, dt, va_up fa n (oa q), va_up fc n (oc q), oa, oc, ⟨(ks_set_same _ _ _), ((ks_set_ne _ _ (by decide)).trans ((ks_set_ne _ _ (by decide)).trans ((ks_set_ne _ _ (by decide)).trans ((ks_set_ne _ _ (by decide)).trans hX.2.1)))), ((ks_set_ne _ _ (by decide)).trans ((ks_set_ne _ _ (by decide)).trans (ks_set_same _ _ _))), ((ks_set_ne _ _ (by decide)).trans (ks_set_same _ _ _)), ((ks_set_ne _ _ (by decide)).trans ((ks_set_ne _ _ (by decide)).trans ((ks_set_ne _ _ (by decide)).trans ((ks_set_ne _ _ (by decide)).trans hX.2.2.2.2.1)))), ((ks_set_ne _ _ (by decide)).trans ((ks_set_ne _ _ (by decide)).trans ((ks_set_ne _ _ (by decide)).trans ((ks_set_ne _ _ (by decide)).trans hX.2.2.2.2.2.1)))), ((ks_set_ne _ _ (by decide)).trans ((ks_set_ne _ _ (by decide)).trans ((ks_set_ne _ _ (by decide)).trans ((ks_set_ne _ _ (by decide)).trans hX.2.2.2.2.2.2.1)))), hX.2.2.2.2.2.2.2.1, hX.2.2.2.2.2.2.2.2.1, by omega, b2, by omega, ?_, fun i hi => hX.2.2.2.2.2.2.2.2.2.2.2.2.2 i (by omega)⟩, ?_, rfl⟩
      · intro i hi
        by_cases e : i = n
        · subst e; rw [va_up_self, va_up_self]; exact hX.2.2.2.2.2.2.2.2.2.2.2.2.2 _ (by omega)
        · rw [va_up_ne _ _ e, va_up_ne _ _ e]; exact hX.2.2.2.2.2.2.2.2.2.2.2.2.1 i (by omega)
      · rw [stE, va_up_self, va_up_self, hx]
        congr 1
        refine stE_congr (fun i hi => ?_)
        rw [va_up_ne _ _ (by omega), va_up_ne _ _ (by omega)]
        exact ⟨rfl, rfl, fun j hj => rfl⟩
    · refine ks_iconst (x := nI 0) dX8_takeBack_17 (by decide) rfl ?_
      refine ks_zret rfl rfl dX8_takeBack_18 ?_
      first | omega | (subst hc4; exact Or.inl ⟨hy, rfl, rfl⟩)
theorem dn_lt {k : Nat} (h : k < 2 ^ 30) : nI k - 1 < nI k := by
  cases k with
  | zero => decide
  | succ j => rw [nI_pred]; exact nI_lt (by omega) (by omega)
/-- whether an element counts as true -/
def isTr (x : List Nat) : Bool := decide (∃ i, i < x.length ∧ x.getD i 0 ≠ 0 ∧ (i + 1 ≠ x.length ∨ x.getD i 0 ≠ 128))
theorem isTr_of {x : List Nat} {i : Nat} (h1 : i < x.length) (h2 : ∀ j, j < i → x.getD j 0 = 0) (h3 : x.getD i 0 ≠ 0) : isTr x = decide (i + 1 ≠ x.length ∨ x.getD i 0 ≠ 128) := by
  unfold isTr
  by_cases e : i + 1 ≠ x.length ∨ x.getD i 0 ≠ 128
  · rw [decide_eq_true e, decide_eq_true ⟨i, h1, h3, e⟩]
  · rw [decide_eq_false e, decide_eq_false]
    rintro ⟨j, a1, a2, a3⟩
    rcases Nat.lt_trichotomy j i with h | h | h
    · exact a2 (h2 j h)
    · subst h; exact e a3
    · omega
theorem isTr_no {x : List Nat} (h2 : ∀ j, j < x.length → x.getD j 0 = 0) : isTr x = false := by
  unfold isTr
  rw [decide_eq_false]
  rintro ⟨j, a1, a2, a3⟩
  exact a2 (h2 j a1)
def topTr (xs : List (List Nat)) : Bool := match xs with
  | [] => false
  | x :: _ => isTr x
set_option maxRecDepth 100000 in
set_option maxHeartbeats 2000000 in
theorem c_st_isTopTrue {l : Launch} {G : ks_G} {d : Nat} {S : ks_S} {xs ys : List (List Nat)} {u : Nat} (hO : st_ok S xs ys u) : ks_P l G yX8_isTopTrue mX8_isTopTrue d [.ref 29] S (fun z S' => z = some (.int (ks_bo (topTr xs))) ∧ S' = S) := by
  obtain ⟨n, o, ar, dt, fa, fc, oa, oc, hX, hx, hy⟩ := hO
  have b1 := hX.2.2.2.2.2.2.2.2.2.1
  have b2 := hX.2.2.2.2.2.2.2.2.2.2.1
  have b3 := hX.2.2.2.2.2.2.2.2.2.2.2.1
  have lx : xs.length = n := by rw [hx, stE_len]
  have ly : ys.length = o := by rw [hy, stE_len]
  cases n with
  | zero =>
    subst hx
    refine ks_of (by decide) rfl rfl (Nat.le_of_ble_eq_true rfl) ?_
    show ks_X l G mX8_isTopTrue d 0 [(0, .ref 29)] [] S _
    refine ks_aload_n dX8_isTopTrue_0 rfl rfl ?_
    refine ks_getf (T := TX8) (kf := 3) kx_614 rfl in_X8 cl_X8 (by decide) hX.1 rfl dX8_isTopTrue_1 rfl ?_
    refine ks_if_neN (tgt := 9) (by decide) dX8_isTopTrue_4 (by decide) rfl (fun hc => ?_) (fun hc => ?_)
    · exact absurd rfl hc
    · refine ks_iconst (x := nI 0) dX8_isTopTrue_7 (by decide) rfl ?_
      refine ks_zret rfl rfl dX8_isTopTrue_8 ?_
      exact ⟨rfl, rfl⟩
  | succ n =>
    have fb := hX.2.2.2.2.2.2.2.2.2.2.2.2.1 n (by omega)
    have et : topTr xs = isTr (bytL ar (fa n) (fc n)) := by rw [hx]; rfl
    rw [et]
    have gd : ∀ j, j < fc n → (bytL ar (fa n) (fc n)).getD j 0 = ar (fa n + j) := fun j hj => bytL_at ar (fa n) (fc n) hj
    have gl := bytL_len ar (fa n) (fc n)
    have loop : ∀ c i, i + c = fc n → (∀ j, j < i → ar (fa n + j) = 0) → ks_X l G mX8_isTopTrue d 37 [(0, .ref 29), (1, .int (nI (fc n) - 1)), (2, .int (nI (fa n))), (3, .int (nI i))] [] S (fun z S' => z = some (.int (ks_bo (isTr (bytL ar (fa n) (fc n))))) ∧ S' = S) := by
      intro c
      induction c with
      | zero =>
        intro i hi hz
        refine ks_iload_n dX8_isTopTrue_37 rfl rfl ?_
        refine ks_iload_n dX8_isTopTrue_38 rfl rfl ?_
        refine ks_icmp_gt (tgt := 83) dX8_isTopTrue_39 (by decide) rfl (fun hc => ?_) (fun hc => ?_)
        · refine ks_iconst (x := nI 0) dX8_isTopTrue_83 (by decide) rfl ?_
          refine ks_zret rfl rfl dX8_isTopTrue_84 ?_
          refine ⟨?_, rfl⟩
          rw [isTr_no (fun j hj => by rw [gl] at hj; rw [gd j hj]; exact hz j (by omega))]
          rfl
        · refine absurd ?_ hc
          rw [show i = fc n by omega]
          exact dn_lt (by omega)
      | succ c ih =>
        intro i hi hz
        have e1 : nI (fc n) - 1 = nI (fc n - 1) := by rw [show fc n = (fc n - 1) + 1 by omega]; exact nI_pred _
        rw [e1]
        refine ks_iload_n dX8_isTopTrue_37 rfl rfl ?_
        refine ks_iload_n dX8_isTopTrue_38 rfl rfl ?_
        refine ks_icmp_gtN (tgt := 83) (by omega) (by omega) dX8_isTopTrue_39 (by decide) rfl (fun hcc => ?_) (fun hcc => ?_)
        · omega
        · refine ks_aload_n dX8_isTopTrue_42 rfl rfl ?_
          refine ks_getf (T := TX8) (kf := 0) kx_608 rfl in_X8 cl_X8 (by decide) hX.1 rfl dX8_isTopTrue_43 rfl ?_
          refine ks_iload_n dX8_isTopTrue_46 rfl rfl ?_
          refine ks_iload_n dX8_isTopTrue_47 rfl rfl ?_
          refine ks_addN dX8_isTopTrue_48 rfl ?_
          refine ks_baldB (i := fa n + i) hX.2.1 rfl (by omega) (by decide) dX8_isTopTrue_49 rfl ?_
          refine ks_if_eqY (tgt := 77) (hX.2.2.2.2.2.2.2.1 _) dX8_isTopTrue_50 (by decide) rfl (fun hc50 => ?_) (fun hc50 => ?_)
          · refine ks_incN (c := 1) (e := i + 1) dX8_isTopTrue_77 rfl (by decide) rfl (by decide) rfl ?_
            refine ks_sub [(3, _), (0, _), (1, _), (2, _)] rfl ?_
            refine ks_goto (tgt := 37) dX8_isTopTrue_80 (by decide) ?_
            rw [← e1]
            exact ks_sub [(0, _), (1, _), (2, _), (3, _)] rfl (ih (i + 1) (by omega) (fun j hj => by
              rcases Nat.lt_succ_iff_lt_or_eq.mp hj with h | h
              · exact hz j h
              · rw [h]; assumption))
          · refine ks_iload_n dX8_isTopTrue_53 rfl rfl ?_
            refine ks_iload_n dX8_isTopTrue_54 rfl rfl ?_
            refine ks_icmp_neN (tgt := 71) (by omega) (by omega) dX8_isTopTrue_55 (by decide) rfl (fun hc55 => ?_) (fun hc55 => ?_)
            · refine ks_iconst (x := nI 1) dX8_isTopTrue_71 (by decide) rfl ?_
              refine ks_goto (tgt := 76) dX8_isTopTrue_72 (by decide) ?_
              refine ks_zret rfl rfl dX8_isTopTrue_76 ?_
              first
              | omega
              | (refine ⟨?_, rfl⟩
                 rw [isTr_of (i := i) (by rw [gl]; omega) (fun j hj => by rw [gd j (by omega)]; exact hz j hj) (by rw [gd i (by omega)]; assumption), gl, gd i (by omega)]
                 rw [decide_eq_true (by omega)]
                 rfl)
            · refine ks_aload_n dX8_isTopTrue_58 rfl rfl ?_
              refine ks_getf (T := TX8) (kf := 0) kx_608 rfl in_X8 cl_X8 (by decide) hX.1 rfl dX8_isTopTrue_59 rfl ?_
              refine ks_iload_n dX8_isTopTrue_62 rfl rfl ?_
              refine ks_iload_n dX8_isTopTrue_63 rfl rfl ?_
              refine ks_addN dX8_isTopTrue_64 rfl ?_
              refine ks_baldB (i := fa n + i) hX.2.1 rfl (by omega) (by decide) dX8_isTopTrue_65 rfl ?_
              refine ks_bipush (x := (-128)) dX8_isTopTrue_66 (by decide) rfl ?_
              refine ks_icmp_eqYM (tgt := 75) (hX.2.2.2.2.2.2.2.1 _) 128 (by decide) (by decide) dX8_isTopTrue_68 (by decide) rfl (fun hc68 => ?_) (fun hc68 => ?_)
              · refine ks_iconst (x := nI 0) dX8_isTopTrue_75 (by decide) rfl ?_
                refine ks_zret rfl rfl dX8_isTopTrue_76 ?_
                first
                | omega
                | (refine ⟨?_, rfl⟩
                   rw [isTr_of (i := i) (by rw [gl]; omega) (fun j hj => by rw [gd j (by omega)]; exact hz j hj) (by rw [gd i (by omega)]; assumption), gl, gd i (by omega)]
                   rw [decide_eq_false (by omega)]
                   rfl)
              · refine ks_iconst (x := nI 1) dX8_isTopTrue_71 (by decide) rfl ?_
                refine ks_goto (tgt := 76) dX8_isTopTrue_72 (by decide) ?_
                refine ks_zret rfl rfl dX8_isTopTrue_76 ?_
                first
                | omega
                | (refine ⟨?_, rfl⟩
                   rw [isTr_of (i := i) (by rw [gl]; omega) (fun j hj => by rw [gd j (by omega)]; exact hz j hj) (by rw [gd i (by omega)]; assumption), gl, gd i (by omega)]
                   rw [decide_eq_true (by omega)]
                   rfl)
    refine ks_of (by decide) rfl rfl (Nat.le_of_ble_eq_true rfl) ?_
    show ks_X l G mX8_isTopTrue d 0 [(0, .ref 29)] [] S _
    refine ks_aload_n dX8_isTopTrue_0 rfl rfl ?_
    refine ks_getf (T := TX8) (kf := 3) kx_614 rfl in_X8 cl_X8 (by decide) hX.1 rfl dX8_isTopTrue_1 rfl ?_
    refine ks_if_neN (tgt := 9) (by omega) dX8_isTopTrue_4 (by decide) rfl (fun hc0 => ?_) (fun hc0 => ?_)
    · refine ks_aload_n dX8_isTopTrue_9 rfl rfl ?_
      refine ks_getf (T := TX8) (kf := 2) kx_612 rfl in_X8 cl_X8 (by decide) hX.1 rfl dX8_isTopTrue_10 rfl ?_
      refine ks_aload_n dX8_isTopTrue_13 rfl rfl ?_
      refine ks_getf (T := TX8) (kf := 3) kx_614 rfl in_X8 cl_X8 (by decide) hX.1 rfl dX8_isTopTrue_14 rfl ?_
      refine ks_iconst (x := nI 1) dX8_isTopTrue_17 (by decide) rfl ?_
      refine ks_subN (by omega) dX8_isTopTrue_18 rfl ?_
      refine ks_ialdN (i := n + 1 - 1) hX.2.2.2.1 rfl (by omega) (by decide) dX8_isTopTrue_19 rfl ?_
      refine ks_iconst (x := nI 1) dX8_isTopTrue_20 (by decide) rfl ?_
      refine ks_subD dX8_isTopTrue_21 rfl ?_
      refine ks_istore_n dX8_isTopTrue_22 (by decide) rfl ?_
      refine ks_sub [(1, _), (0, _)] rfl ?_
      refine ks_aload_n dX8_isTopTrue_23 rfl rfl ?_
      refine ks_getf (T := TX8) (kf := 1) kx_610 rfl in_X8 cl_X8 (by decide) hX.1 rfl dX8_isTopTrue_24 rfl ?_
      refine ks_aload_n dX8_isTopTrue_27 rfl rfl ?_
      refine ks_getf (T := TX8) (kf := 3) kx_614 rfl in_X8 cl_X8 (by decide) hX.1 rfl dX8_isTopTrue_28 rfl ?_
      refine ks_iconst (x := nI 1) dX8_isTopTrue_31 (by decide) rfl ?_
      refine ks_subN (by omega) dX8_isTopTrue_32 rfl ?_
      refine ks_ialdN (i := n + 1 - 1) hX.2.2.1 rfl (by omega) (by decide) dX8_isTopTrue_33 rfl ?_
      refine ks_istore_n dX8_isTopTrue_34 (by decide) rfl ?_
      refine ks_sub [(2, _), (0, _), (1, _)] rfl ?_
      refine ks_iconst (x := nI 0) dX8_isTopTrue_35 (by decide) rfl ?_
      refine ks_istore_n dX8_isTopTrue_36 (by decide) rfl ?_
      refine ks_sub [(3, _), (0, _), (1, _), (2, _)] rfl ?_
      simp only [Nat.add_sub_cancel]
      exact ks_sub [(0, _), (1, _), (2, _), (3, _)] rfl (loop (fc n) 0 (by omega) (fun j hj => absurd hj (Nat.not_lt_zero j)))
    · exact absurd hc0 (by omega)
