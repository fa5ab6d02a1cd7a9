/-! THE REFERENCE: operations taken out of the code -/
theorem afL_171 {g : Nat → Nat} {i L : Nat} (hi : i < L) (h : g i = 171) : afL (bytL g i (L - i)) = some 1 := by
  rw [afL_at hi, h]
  rw [if_neg (by show ¬ L - i < 1; omega), if_neg (by unfold szO; rw [h]; exact Nat.not_lt_zero _)]
  unfold szO
  rw [h]
  rfl
set_option maxRecDepth 100000 in
set_option maxHeartbeats 800000 in
theorem c_md_unmarked {l : Launch} {G : ks_G} {d : Nat} {S : ks_S} {V : Nat → Value} {c : List Nat} (hO : S.2.2 290 = some (rfE V)) (hC : ctX S V c) : ks_P l G yX16_unmarked mX16_unmarked (d + 2) [.ref 290] S (fun z S' => z = none ∧ ∃ V', ctK S S' V V' ∧ ctX S' V' (fl_ (fun o _ => decide (o = 171)) c)) := by
  obtain ⟨a, b, ga, gb0, hab, v87, v88, ea, ka, eb0, kb0, v89, hcl, ec⟩ := id hC
  obtain ⟨L, eL⟩ : ∃ L, L = c.length := ⟨_, rfl⟩
  rw [← eL] at v89 hcl ec
  have loop : ∀ (f i t : Nat) (S1 : ks_S) (V1 : Nat → Value) (gb : Nat → Nat), L - i ≤ f → i ≤ L → t ≤ i → ks_up S S1 [290, b] → S1.2.2 290 = some (rfE V1) → (∀ k, k ≠ 63 → V1 k = V k) → S1.2.2 b = some (kB 1700 gb) → kO gb → bytL gb 0 t ++ fl_ (fun o _ => decide (o = 171)) (bytL ga i (L - i)) = fl_ (fun o _ => decide (o = 171)) c → ks_X l G mX16_unmarked (d + 2) 4 [(0, .ref 290), (1, .int (nI i)), (2, .int (nI t))] [] S1 (fun z S' => z = none ∧ ∃ V', ctK S S' V V' ∧ ctX S' V' (fl_ (fun o _ => decide (o = 171)) c)) := by
    intro f
    induction f with
    | zero =>
      intro i t S1 V1 gb h1 h2 h3 hu o1 hv e1 kgb hr
      have w87 := (hv 87 (by decide)).trans v87
      have w88 := (hv 88 (by decide)).trans v88
      have w89 := (hv 89 (by decide)).trans v89
      have a1 := hu.at ea (by simp only [List.mem_cons, List.not_mem_nil, or_false, not_or]; omega)
      refine ks_iload_n dX16_unmarked_4 rfl rfl ?_
      refine ks_aload_n dX16_unmarked_5 rfl rfl ?_
      refine ks_getf (T := TX16) (kf := 89) kx_2457 rfl in_X16 cl_X16 (by decide) o1 rfl dX16_unmarked_6 rfl ?_
      refine ks_tv (w89) ?_
      refine ks_icmp_geN (tgt := 95) (by omega) (by omega) dX16_unmarked_9 (by decide) rfl (fun h4 => ?_) (fun h4 => absurd h4 (by omega))
      have hl : (fl_ (fun o _ => decide (o = 171)) c).length = t := by
        rw [← hr, show L - i = 0 by omega]
        show (bytL gb 0 t ++ []).length = t
        rw [List.append_nil, bytL_len]
      have eb' : fl_ (fun o _ => decide (o = 171)) c = bytL gb 0 t := by
        rw [← hr, show L - i = 0 by omega]
        show bytL gb 0 t ++ [] = _
        rw [List.append_nil]
      refine ks_aload_n dX16_unmarked_95 rfl rfl ?_
      refine ks_getf (T := TX16) (kf := 87) kx_2455 rfl in_X16 cl_X16 (by decide) o1 rfl dX16_unmarked_96 rfl ?_
      refine ks_tv (w87) ?_
      refine ks_astore_n dX16_unmarked_99 (by decide) rfl ?_
      refine ks_sub [(3, _), (0, _), (1, _), (2, _)] rfl ?_
      refine ks_aload_n dX16_unmarked_100 rfl rfl ?_
      refine ks_aload_n dX16_unmarked_101 rfl rfl ?_
      refine ks_getf (T := TX16) (kf := 88) kx_2456 rfl in_X16 cl_X16 (by decide) o1 rfl dX16_unmarked_102 rfl ?_
      refine ks_tv (w88) ?_
      refine ks_putf (T := TX16) (kf := 87) kx_2455 rfl in_X16 tyX16_ok nmX16 cl_X16 (by decide) o1 (Nat.le_of_ble_eq_true rfl) rfl rfl rfl rfl dX16_unmarked_105 rfl ?_
      refine md_put mdp_87 ?_
      refine ks_aload_n dX16_unmarked_108 rfl rfl ?_
      refine ks_aload_n dX16_unmarked_109 rfl rfl ?_
      refine ks_putf (T := TX16) (kf := 88) kx_2456 rfl in_X16 tyX16_ok nmX16 cl_X16 (by decide) (ks_set_same _ _ _) (Nat.le_of_ble_eq_true rfl) rfl rfl rfl rfl dX16_unmarked_110 rfl ?_
      refine md_put mdp_88 ?_
      refine ks_aload_n dX16_unmarked_113 rfl rfl ?_
      refine ks_iload_n dX16_unmarked_114 rfl rfl ?_
      refine ks_putf (T := TX16) (kf := 89) kx_2457 rfl in_X16 tyX16_ok nmX16 cl_X16 (by decide) (ks_set_same _ _ _) (Nat.le_of_ble_eq_true rfl) rfl rfl rfl rfl dX16_unmarked_115 rfl ?_
      refine md_put mdp_89 ?_
      refine ks_ret rfl dX16_unmarked_118 ?_
      refine ⟨rfl, _, ⟨(hu.mono (fun x hx => by simp only [List.mem_cons, List.not_mem_nil, or_false] at hx ⊢; omega)).trans (((ks_up_set (L := LCt) _ _ (by decide)).trans (ks_up_set _ _ (by decide))).trans (ks_up_set _ _ (by decide))), ks_set_same _ _ _, fun k h1 h2 h3 h4 => (va_up_ne _ _ h4).trans ((va_up_ne _ _ h3).trans ((va_up_ne _ _ h2).trans (hv k h1)))⟩, b, a, gb, ga, by omega, (va_up_ne _ _ (by decide)).trans ((va_up_ne _ _ (by decide)).trans (va_up_self _ _ _)), (va_up_ne _ _ (by decide)).trans (va_up_self _ _ _), ((ks_set_ne _ _ (by omega)).trans ((ks_set_ne _ _ (by omega)).trans ((ks_set_ne _ _ (by omega)).trans e1))), kgb, ((ks_set_ne _ _ (by omega)).trans ((ks_set_ne _ _ (by omega)).trans ((ks_set_ne _ _ (by omega)).trans a1))), ka, by rw [va_up_self, hl], by rw [hl]; omega, by rw [hl]; exact eb'⟩
    | succ f ih =>
      intro i t S1 V1 gb h1 h2 h3 hu o1 hv e1 kgb hr
      have w87 := (hv 87 (by decide)).trans v87
      have w88 := (hv 88 (by decide)).trans v88
      have w89 := (hv 89 (by decide)).trans v89
      have a1 := hu.at ea (by simp only [List.mem_cons, List.not_mem_nil, or_false, not_or]; omega)
      refine ks_iload_n dX16_unmarked_4 rfl rfl ?_
      refine ks_aload_n dX16_unmarked_5 rfl rfl ?_
      refine ks_getf (T := TX16) (kf := 89) kx_2457 rfl in_X16 cl_X16 (by decide) o1 rfl dX16_unmarked_6 rfl ?_
      refine ks_tv (w89) ?_
      refine ks_icmp_geN (tgt := 95) (by omega) (by omega) dX16_unmarked_9 (by decide) rfl (fun h4 => ?_) (fun h4 => ?_)
      · have hl : (fl_ (fun o _ => decide (o = 171)) c).length = t := by
          rw [← hr, show L - i = 0 by omega]
          show (bytL gb 0 t ++ []).length = t
          rw [List.append_nil, bytL_len]
        have eb' : fl_ (fun o _ => decide (o = 171)) c = bytL gb 0 t := by
          rw [← hr, show L - i = 0 by omega]
          show bytL gb 0 t ++ [] = _
          rw [List.append_nil]
        refine ks_aload_n dX16_unmarked_95 rfl rfl ?_
        refine ks_getf (T := TX16) (kf := 87) kx_2455 rfl in_X16 cl_X16 (by decide) o1 rfl dX16_unmarked_96 rfl ?_
        refine ks_tv (w87) ?_
        refine ks_astore_n dX16_unmarked_99 (by decide) rfl ?_
        refine ks_sub [(3, _), (0, _), (1, _), (2, _)] rfl ?_
        refine ks_aload_n dX16_unmarked_100 rfl rfl ?_
        refine ks_aload_n dX16_unmarked_101 rfl rfl ?_
        refine ks_getf (T := TX16) (kf := 88) kx_2456 rfl in_X16 cl_X16 (by decide) o1 rfl dX16_unmarked_102 rfl ?_
        refine ks_tv (w88) ?_
        refine ks_putf (T := TX16) (kf := 87) kx_2455 rfl in_X16 tyX16_ok nmX16 cl_X16 (by decide) o1 (Nat.le_of_ble_eq_true rfl) rfl rfl rfl rfl dX16_unmarked_105 rfl ?_
        refine md_put mdp_87 ?_
        refine ks_aload_n dX16_unmarked_108 rfl rfl ?_
        refine ks_aload_n dX16_unmarked_109 rfl rfl ?_
        refine ks_putf (T := TX16) (kf := 88) kx_2456 rfl in_X16 tyX16_ok nmX16 cl_X16 (by decide) (ks_set_same _ _ _) (Nat.le_of_ble_eq_true rfl) rfl rfl rfl rfl dX16_unmarked_110 rfl ?_
        refine md_put mdp_88 ?_
        refine ks_aload_n dX16_unmarked_113 rfl rfl ?_
        refine ks_iload_n dX16_unmarked_114 rfl rfl ?_
        refine ks_putf (T := TX16) (kf := 89) kx_2457 rfl in_X16 tyX16_ok nmX16 cl_X16 (by decide) (ks_set_same _ _ _) (Nat.le_of_ble_eq_true rfl) rfl rfl rfl rfl dX16_unmarked_115 rfl ?_
        refine md_put mdp_89 ?_
        refine ks_ret rfl dX16_unmarked_118 ?_
        refine ⟨rfl, _, ⟨(hu.mono (fun x hx => by simp only [List.mem_cons, List.not_mem_nil, or_false] at hx ⊢; omega)).trans (((ks_up_set (L := LCt) _ _ (by decide)).trans (ks_up_set _ _ (by decide))).trans (ks_up_set _ _ (by decide))), ks_set_same _ _ _, fun k h1 h2 h3 h4 => (va_up_ne _ _ h4).trans ((va_up_ne _ _ h3).trans ((va_up_ne _ _ h2).trans (hv k h1)))⟩, b, a, gb, ga, by omega, (va_up_ne _ _ (by decide)).trans ((va_up_ne _ _ (by decide)).trans (va_up_self _ _ _)), (va_up_ne _ _ (by decide)).trans (va_up_self _ _ _), ((ks_set_ne _ _ (by omega)).trans ((ks_set_ne _ _ (by omega)).trans ((ks_set_ne _ _ (by omega)).trans e1))), kgb, ((ks_set_ne _ _ (by omega)).trans ((ks_set_ne _ _ (by omega)).trans ((ks_set_ne _ _ (by omega)).trans a1))), ka, by rw [va_up_self, hl], by rw [hl]; omega, by rw [hl]; exact eb'⟩
      · refine ks_aload_n dX16_unmarked_12 rfl rfl ?_
        refine ks_aload_n dX16_unmarked_13 rfl rfl ?_
        refine ks_getf (T := TX16) (kf := 87) kx_2455 rfl in_X16 cl_X16 (by decide) o1 rfl dX16_unmarked_14 rfl ?_
        refine ks_tv (w87) ?_
        refine ks_iload_n dX16_unmarked_17 rfl rfl ?_
        refine ks_aload_n dX16_unmarked_18 rfl rfl ?_
        refine ks_getf (T := TX16) (kf := 89) kx_2457 rfl in_X16 cl_X16 (by decide) o1 rfl dX16_unmarked_19 rfl ?_
        refine ks_tv (w89) ?_
        refine ks_callV (n := 3) (M' := mX16_behind) (c_md_behind (d := d) o1 a1 ka (by decide) hcl (i := i) (by omega)) o1 cl_X16 rfl kx_2154 kx_2156 kxp_85 kx_30 kx_2157 (by decide +kernel) rfl (by decide) (Nat.le_of_ble_eq_true rfl) rfl dX16_unmarked_22 rfl (fun z2 S2 y2 => ?_)
        obtain ⟨rfl, V2, K2, -⟩ := y2
        have o2 := K2.2.1
        have hu2 : ks_up S S2 [290, b] := hu.trans (K2.1.mono (by simp))
        have hv2 : ∀ k, k ≠ 63 → V2 k = V k := fun k h => (K2.2.2 k h).trans (hv k h)
        have x87 := (hv2 87 (by decide)).trans v87
        have x88 := (hv2 88 (by decide)).trans v88
        have x89 := (hv2 89 (by decide)).trans v89
        have a2 := K2.1.at a1 (by rw [List.mem_singleton]; omega)
        have b2 := K2.1.at e1 (by rw [List.mem_singleton]; omega)
        have gi := ka i
        rcases aftI_cases ga i L with ⟨an, ae⟩ | ⟨k, an, ae, k1, k2, -⟩
        · rw [ae]
          refine ks_istore_n dX16_unmarked_25 (by decide) rfl ?_
          refine ks_sub [(3, _), (0, _), (1, _), (2, _)] rfl ?_
          refine ks_iload_n dX16_unmarked_26 rfl rfl ?_
          refine ks_if_ge (tgt := 35) dX16_unmarked_27 (by decide) rfl (fun h5 => ?_) (fun h5 => ?_)
          · exact absurd h5 (by decide)
          · have n171 : ¬ ga i = 171 := fun h => by rw [afL_171 (by omega) h] at an; cases an
            refine ks_aload_n dX16_unmarked_30 rfl rfl ?_
            refine ks_getf (T := TX16) (kf := 89) kx_2457 rfl in_X16 cl_X16 (by decide) o2 rfl dX16_unmarked_31 rfl ?_
            refine ks_tv x89 ?_
            refine ks_istore_n dX16_unmarked_34 (by decide) rfl ?_
            refine ks_sub [(3, _), (0, _), (1, _), (2, _)] rfl ?_
            refine ks_aload_n dX16_unmarked_35 rfl rfl ?_
            refine ks_getf (T := TX16) (kf := 87) kx_2455 rfl in_X16 cl_X16 (by decide) o2 rfl dX16_unmarked_36 rfl ?_
            refine ks_tv x87 ?_
            refine ks_iload_n dX16_unmarked_39 rfl rfl ?_
            refine ks_baldB (i := i) a2 rfl (by omega) (by decide) dX16_unmarked_40 rfl ?_
            refine ks_sipush (x := nI 255) dX16_unmarked_41 (by decide) rfl ?_
            refine ks_andB (ka _) dX16_unmarked_44 rfl ?_
            have hy44 : ga i < 256 := (ka _)
            refine ks_sipush (x := nI 171) dX16_unmarked_45 (by decide) rfl ?_
            refine ks_icmp_neN (tgt := 55) (by omega) (by decide) dX16_unmarked_48 (by decide) rfl (fun h6 => ?_) (fun h6 => ?_)
            · refine ks_iconst (x := nI 0) dX16_unmarked_55 (by decide) rfl ?_
              refine ks_istore dX16_unmarked_56 (by decide) rfl ?_
              refine ks_sub [(4, _), (0, _), (1, _), (2, _), (3, _)] rfl ?_
              refine ks_sub [(0, _), (1, .int (nI (i + 0))), (2, .int (nI (t + 0))), (3, _), (4, _)] rfl (l_umCp (d := d + 2) o2 hab x87 x88 x89 hcl a2 ka b2 kgb h3 (nx := L) (by omega) (by omega) (fun S3 u3 e3 => ?_) (L - i) 0 S2 (by omega) (ks_up.rf _ _) (by rw [ks_pt_0]; exact b2))
              have o3 := u3.at o2 (by rw [List.mem_singleton]; omega)
              refine ks_goto (tgt := 4) dX16_unmarked_92 (by decide) ?_
              refine ks_sub [(0, _), (1, _), (2, _)] rfl (ih (L) (t + (L - i)) S3 V2 _ (by omega) (by omega) (by omega) (hu2.trans (u3.mono (by simp))) o3 hv2 e3 (kO_pt (fun j => ka _) kgb _ _) ?_)
              rw [bytL_pt2, ← hr, List.append_assoc]
              congr 1
              rw [fl_n an, show L - L = 0 by omega]
              show bytL (fun j => ga (i + j)) 0 (L - i) ++ [] = _
              rw [List.append_nil]
              exact bytL_congr (fun j hj => by rw [Nat.zero_add])
            · exact absurd h6 n171
        · rw [ae]
          have ed := bytL_drop ga i k2
          have hh : (bytL ga i (L - i)).headD 0 = ga i := bytL_head ga (by omega)
          refine ks_istore_n dX16_unmarked_25 (by decide) rfl ?_
          refine ks_sub [(3, _), (0, _), (1, _), (2, _)] rfl ?_
          refine ks_iload_n dX16_unmarked_26 rfl rfl ?_
          refine ks_if_geN (tgt := 35) (by omega) dX16_unmarked_27 (by decide) ?_
          refine ks_aload_n dX16_unmarked_35 rfl rfl ?_
          refine ks_getf (T := TX16) (kf := 87) kx_2455 rfl in_X16 cl_X16 (by decide) o2 rfl dX16_unmarked_36 rfl ?_
          refine ks_tv x87 ?_
          refine ks_iload_n dX16_unmarked_39 rfl rfl ?_
          refine ks_baldB (i := i) a2 rfl (by omega) (by decide) dX16_unmarked_40 rfl ?_
          refine ks_sipush (x := nI 255) dX16_unmarked_41 (by decide) rfl ?_
          refine ks_andB (ka _) dX16_unmarked_44 rfl ?_
          have hy44 : ga i < 256 := (ka _)
          refine ks_sipush (x := nI 171) dX16_unmarked_45 (by decide) rfl ?_
          refine ks_icmp_neN (tgt := 55) (by omega) (by decide) dX16_unmarked_48 (by decide) rfl (fun h6 => ?_) (fun h6 => ?_)
          · refine ks_iconst (x := nI 0) dX16_unmarked_55 (by decide) rfl ?_
            refine ks_istore dX16_unmarked_56 (by decide) rfl ?_
            refine ks_sub [(4, _), (0, _), (1, _), (2, _), (3, _)] rfl ?_
            refine ks_sub [(0, _), (1, .int (nI (i + 0))), (2, .int (nI (t + 0))), (3, _), (4, _)] rfl (l_umCp (d := d + 2) o2 hab x87 x88 x89 hcl a2 ka b2 kgb h3 (nx := i + k) (by omega) (by omega) (fun S3 u3 e3 => ?_) (i + k - i) 0 S2 (by omega) (ks_up.rf _ _) (by rw [ks_pt_0]; exact b2))
            have o3 := u3.at o2 (by rw [List.mem_singleton]; omega)
            refine ks_goto (tgt := 4) dX16_unmarked_92 (by decide) ?_
            refine ks_sub [(0, _), (1, _), (2, _)] rfl (ih (i + k) (t + (i + k - i)) S3 V2 _ (by omega) (by omega) (by omega) (hu2.trans (u3.mono (by simp))) o3 hv2 e3 (kO_pt (fun j => ka _) kgb _ _) ?_)
            rw [bytL_pt2, ← hr, List.append_assoc]
            congr 1
            rw [fl_s an, hh, if_neg (by rw [decide_eq_false h6]; decide), bytL_take _ _ k2, ed, show i + k - i = k by omega, show L - i - k = L - (i + k) by omega]
            congr 1
            exact bytL_congr (fun j hj => by rw [Nat.zero_add])
          · refine ks_iconst (x := nI 1) dX16_unmarked_51 (by decide) rfl ?_
            refine ks_goto (tgt := 56) dX16_unmarked_52 (by decide) ?_
            refine ks_istore dX16_unmarked_56 (by decide) rfl ?_
            refine ks_sub [(4, _), (0, _), (1, _), (2, _), (3, _)] rfl ?_
            have skip : ∀ (u q : Nat), q + u = k → ks_X l G mX16_unmarked (d + 2) 58 [(0, .ref 290), (1, .int (nI (i + q))), (2, .int (nI t)), (3, .int (nI (i + k))), (4, .int (nI 1))] [] S2 (fun z S' => z = none ∧ ∃ V', ctK S S' V V' ∧ ctX S' V' (fl_ (fun o _ => decide (o = 171)) c)) := by
              intro u
              induction u with
              | zero =>
                intro q hq
                refine ks_iload_n dX16_unmarked_58 rfl rfl ?_
                refine ks_iload_n dX16_unmarked_59 rfl rfl ?_
                refine ks_icmp_geN (tgt := 92) (by omega) (by omega) dX16_unmarked_60 (by decide) rfl (fun h7 => ?_) (fun h7 => absurd h7 (by omega))
                refine ks_goto (tgt := 4) dX16_unmarked_92 (by decide) ?_
                obtain rfl : q = k := hq
                refine ks_sub [(0, _), (1, _), (2, _)] rfl (ih (i + q) t S2 V2 gb (by omega) (by omega) (by omega) hu2 o2 hv2 b2 kgb ?_)
                rw [← hr, fl_s an, hh, if_pos (by rw [decide_eq_true h6]), List.nil_append, ed, show L - i - q = L - (i + q) by omega]
              | succ u ihu =>
                intro q hq
                refine ks_iload_n dX16_unmarked_58 rfl rfl ?_
                refine ks_iload_n dX16_unmarked_59 rfl rfl ?_
                refine ks_icmp_geN (tgt := 92) (by omega) (by omega) dX16_unmarked_60 (by decide) rfl (fun h7 => absurd h7 (by omega)) (fun h7 => ?_)
                refine ks_iload dX16_unmarked_63 rfl rfl ?_
                refine ks_if_eqN (tgt := 71) (by decide) dX16_unmarked_65 (by decide) rfl (fun h => absurd h (by decide)) (fun _ => ?_)
                refine ks_goto (tgt := 86) dX16_unmarked_68 (by decide) ?_
                refine ks_incN (c := 1) (e := i + q + 1) dX16_unmarked_86 rfl (by decide) rfl (by decide) rfl ?_
                refine ks_sub [(1, _), (0, _), (2, _), (3, _), (4, _)] rfl ?_
                refine ks_goto (tgt := 58) dX16_unmarked_89 (by decide) ?_
                exact ks_sub [(0, _), (1, _), (2, _), (3, _), (4, _)] rfl (ihu (q + 1) (by omega))
            exact ks_sub [(0, _), (1, .int (nI (i + 0))), (2, _), (3, _), (4, _)] rfl (skip k 0 (by omega))
  refine ks_of (by decide) rfl rfl (Nat.le_of_ble_eq_true rfl) ?_
  show ks_X l G mX16_unmarked (d + 2) 0 [(0, .ref 290)] [] S _
  refine ks_iconst (x := nI 0) dX16_unmarked_0 (by decide) rfl ?_
  refine ks_istore_n dX16_unmarked_1 (by decide) rfl ?_
  refine ks_sub [(1, _), (0, _)] rfl ?_
  refine ks_iconst (x := nI 0) dX16_unmarked_2 (by decide) rfl ?_
  refine ks_istore_n dX16_unmarked_3 (by decide) rfl ?_
  refine ks_sub [(2, _), (0, _), (1, _)] rfl ?_
  exact ks_sub [(0, _), (1, _), (2, _)] rfl (loop L 0 0 S V gb0 (by omega) (by omega) (by omega) (ks_up.rf _ _) hO (fun _ _ => rfl) eb0 kb0 (by rw [Nat.sub_zero, ← ec]; rfl))
/-- where an operation is a push of these bytes -/
theorem isSg_at {g gy : Nat → Nat} {i L n : Nat} (hg : kO g) (hi : i < L) (hn : n ≤ 255) : (i + (if n < 76 then 1 else 2) + n ≤ L ∧ g i = (if n < 76 then n else 76) ∧ (n < 76 ∨ g (i + 1) = n) ∧ (∀ j, j < n → g (i + (if n < 76 then 1 else 2) + j) = gy j)) ↔ ∃ k, afL (bytL g i (L - i)) = some k ∧ k = (if n < 76 then 1 else 2) + n ∧ isSg ((bytL g i (L - i)).headD 0) (((bytL g i (L - i)).take k).drop (hdS ((bytL g i (L - i)).headD 0))) (bytL gy 0 n) = true := by
  have hh : (bytL g i (L - i)).headD 0 = g i := bytL_head g (by omega)
  rw [hh]
  have ls : (bytL gy 0 n).length = n := bytL_len _ _ _
  constructor
  · rintro ⟨h1, h2, h3, h4⟩
    have hd : hdS (g i) = (if n < 76 then 1 else 2) := by
      rw [h2]
      by_cases c : n < 76
      · rw [if_pos c, if_pos c]; exact (hdS_b n).2.2 c
      · rw [if_neg c, if_neg c]; rfl
    have sz9 : szO g i = n := by
      unfold szO
      rw [hd]
      by_cases c : n < 76
      · rw [if_pos c] at h2
        rw [if_pos (by omega)]
        exact h2
      · rw [if_neg c] at h2 ⊢
        rw [if_neg (by omega)]
        show g (i + 1) + 256 * 0 = n
        have := h3.resolve_left c
        omega
    have af : afL (bytL g i (L - i)) = some ((if n < 76 then 1 else 2) + n) := by
      rw [afL_at hi, hd, sz9, if_neg (by split <;> split at h1 <;> omega), if_neg (by split <;> split at h1 <;> omega)]
    refine ⟨_, af, rfl, ?_⟩
    unfold isSg
    rw [ls, hd]
    refine decide_eq_true ⟨?_, ?_⟩
    · by_cases c : n < 76
      · rw [if_pos c] at h2 ⊢; exact h2
      · rw [if_neg c] at h2 ⊢; exact h2
    · rw [bytL_take _ _ (by split <;> split at h1 <;> omega), bytL_drop _ _ (Nat.le_add_right _ _), Nat.add_sub_cancel_left]
      exact bytL_congr (fun j hj => by rw [h4 j hj, Nat.zero_add])
  · rintro ⟨k, af, ek, hs⟩
    have hb := afL_b af
    rw [bytL_len, hh] at hb
    unfold isSg at hs
    obtain ⟨s1, s2⟩ := of_decide_eq_true hs
    rw [ls] at s1
    have hd : hdS (g i) = (if n < 76 then 1 else 2) := by
      by_cases c : n < 76
      · rw [if_pos c] at s1; rw [if_pos c, s1]; exact (hdS_b n).2.2 c
      · rw [if_neg c] at s1; rw [if_neg c, s1]; rfl
    rw [hd, bytL_take _ _ hb.2.1, ek, bytL_drop _ _ (Nat.le_add_right _ _), Nat.add_sub_cancel_left] at s2
    refine ⟨by omega, ?_, ?_, fun j hj => ?_⟩
    · by_cases c : n < 76
      · rw [if_pos c] at s1 ⊢; exact s1
      · rw [if_neg c] at s1 ⊢; exact s1
    · by_cases c : n < 76
      · exact Or.inl c
      · right
        rw [if_neg c] at s1 hd ek
        rw [afL_at hi, hd] at af
        have sz9 : szO g i = g (i + 1) := by
          unfold szO
          rw [if_neg (by omega), hd]
          show g (i + 1) + 256 * 0 = _
          omega
        rw [sz9] at af
        split at af
        · cases af
        · split at af
          · cases af
          · have := Option.some.inj af; omega
    · have := congrArg (fun x => x.getD j 0) s2
      rw [bytL_at _ _ _ hj, bytL_at _ _ _ hj, Nat.zero_add] at this
      exact this
theorem isSg_k {g gy : Nat → Nat} {i L n k : Nat} (hg : kO g) (hi : i < L) (hn : n ≤ 255) (af : afL (bytL g i (L - i)) = some k) (hs : isSg ((bytL g i (L - i)).headD 0) (((bytL g i (L - i)).take k).drop (hdS ((bytL g i (L - i)).headD 0))) (bytL gy 0 n) = true) : k = (if n < 76 then 1 else 2) + n := by
  have hh : (bytL g i (L - i)).headD 0 = g i := bytL_head g (by omega)
  have hb := afL_b af
  rw [bytL_len, hh] at hb
  rw [hh] at hs
  unfold isSg at hs
  obtain ⟨s1, s2⟩ := of_decide_eq_true hs
  rw [bytL_len] at s1
  have hd : hdS (g i) = (if n < 76 then 1 else 2) := by
    by_cases c : n < 76
    · rw [if_pos c] at s1; rw [if_pos c, s1]; exact (hdS_b n).2.2 c
    · rw [if_neg c] at s1; rw [if_neg c, s1]; rfl
  have l2 := congrArg List.length s2
  rw [hd, List.length_drop, List.length_take, bytL_len, bytL_len] at l2
  rw [hd] at hb
  omega
theorem isSg_big {o : Nat} {x s : List Nat} (hs : 255 < s.length) (hx : o = 76 → x.length ≤ 255) : isSg o x s = false := by
  unfold isSg
  refine decide_eq_false (fun h => ?_)
  rw [if_neg (by omega)] at h
  have := hx h.1
  rw [h.2] at this
  omega
set_option maxRecDepth 100000 in
set_option maxHeartbeats 1600000 in
theorem c_md_without {l : Launch} {G : ks_G} {d : Nat} {S : ks_S} {V : Nat → Value} {c : List Nat} {y N n : Nat} {gy : Nat → Nat} (hO : S.2.2 290 = some (rfE V)) (hC : ctX S V c) (hy : S.2.2 y = some (kB N gy)) (ky : kO gy) (hn : n ≤ N) (hN : N < 2 ^ 28) (hy9 : N ≠ 1700) (hn9 : n ≤ 255) : ks_P l G yX16_without mX16_without (d + 2) [.ref 290, .ref y, .int (nI n)] S (fun z S' => z = none ∧ ∃ V', ctK S S' V V' ∧ ctX S' V' (fl_ (fun o x => isSg o x (bytL gy 0 n)) c)) := by
  obtain ⟨a, b, ga, gb0, hab, v87, v88, ea, ka, eb0, kb0, v89, hcl, ec⟩ := id hC
  obtain ⟨L, eL⟩ : ∃ L, L = c.length := ⟨_, rfl⟩
  rw [← eL] at v89 hcl ec
  have ya : y ≠ a := fun h => by subst h; rw [hy] at ea; exact hy9 (kB_lq (Option.some.inj ea))
  have yb : y ≠ b := fun h => by subst h; rw [hy] at eb0; exact hy9 (kB_lq (Option.some.inj eb0))
  have yO : y ≠ 290 := ks_ne hy hO (fun h => by cases h)
  obtain ⟨h, eh⟩ : ∃ h, h = if n < 76 then 1 else 2 := ⟨_, rfl⟩
  have hb1 : h = 1 ∨ h = 2 := by rw [eh]; split <;> simp
  have hb2 : h = 1 ↔ n < 76 := by rw [eh]; split <;> simp <;> omega
  have loop : ∀ (f i t : Nat) (S1 : ks_S) (V1 : Nat → Value) (gb : Nat → Nat), L - i ≤ f → i ≤ L → t ≤ i → ks_up S S1 [290, b] → S1.2.2 290 = some (rfE V1) → (∀ k, k ≠ 63 → V1 k = V k) → S1.2.2 b = some (kB 1700 gb) → kO gb → bytL gb 0 t ++ fl_ (fun o x => isSg o x (bytL gy 0 n)) (bytL ga i (L - i)) = fl_ (fun o x => isSg o x (bytL gy 0 n)) c → ks_X l G mX16_without (d + 2) 26 [(0, .ref 290), (1, .ref y), (2, .int (nI n)), (3, .int (nI h)), (4, .int (nI i)), (5, .int (nI t))] [] S1 (fun z S' => z = none ∧ ∃ V', ctK S S' V V' ∧ ctX S' V' (fl_ (fun o x => isSg o x (bytL gy 0 n)) c)) := by
    intro f
    induction f with
    | zero =>
      intro i t S1 V1 gb h1 h2 h3 hu o1 hv e1 kgb hr
      have w87 := (hv 87 (by decide)).trans v87
      have w88 := (hv 88 (by decide)).trans v88
      have w89 := (hv 89 (by decide)).trans v89
      have a1 := hu.at ea (by simp only [List.mem_cons, List.not_mem_nil, or_false, not_or]; omega)
      have y1 := hu.at hy (by simp only [List.mem_cons, List.not_mem_nil, or_false, not_or]; exact ⟨yO, yb⟩)
      refine ks_iload dX16_without_26 rfl rfl ?_
      refine ks_aload_n dX16_without_28 rfl rfl ?_
      refine ks_getf (T := TX16) (kf := 89) kx_2457 rfl in_X16 cl_X16 (by decide) o1 rfl dX16_without_29 rfl ?_
      refine ks_tv (w89) ?_
      refine ks_icmp_geN (tgt := 195) (by omega) (by omega) dX16_without_32 (by decide) rfl (fun h4 => ?_) (fun h4 => absurd h4 (by omega))
      have hl : (fl_ (fun o x => isSg o x (bytL gy 0 n)) c).length = t := by
        rw [← hr, show L - i = 0 by omega]
        show (bytL gb 0 t ++ []).length = t
        rw [List.append_nil, bytL_len]
      have eb' : fl_ (fun o x => isSg o x (bytL gy 0 n)) c = bytL gb 0 t := by
        rw [← hr, show L - i = 0 by omega]
        show bytL gb 0 t ++ [] = _
        rw [List.append_nil]
      refine ks_aload_n dX16_without_195 rfl rfl ?_
      refine ks_getf (T := TX16) (kf := 87) kx_2455 rfl in_X16 cl_X16 (by decide) o1 rfl dX16_without_196 rfl ?_
      refine ks_tv (w87) ?_
      refine ks_astore dX16_without_199 (by decide) rfl ?_
      refine ks_sub [(6, _), (0, _), (1, _), (2, _), (3, _), (4, _), (5, _)] rfl ?_
      refine ks_aload_n dX16_without_201 rfl rfl ?_
      refine ks_aload_n dX16_without_202 rfl rfl ?_
      refine ks_getf (T := TX16) (kf := 88) kx_2456 rfl in_X16 cl_X16 (by decide) o1 rfl dX16_without_203 rfl ?_
      refine ks_tv (w88) ?_
      refine ks_putf (T := TX16) (kf := 87) kx_2455 rfl in_X16 tyX16_ok nmX16 cl_X16 (by decide) o1 (Nat.le_of_ble_eq_true rfl) rfl rfl rfl rfl dX16_without_206 rfl ?_
      refine md_put mdp_87 ?_
      refine ks_aload_n dX16_without_209 rfl rfl ?_
      refine ks_aload dX16_without_210 rfl rfl ?_
      refine ks_putf (T := TX16) (kf := 88) kx_2456 rfl in_X16 tyX16_ok nmX16 cl_X16 (by decide) (ks_set_same _ _ _) (Nat.le_of_ble_eq_true rfl) rfl rfl rfl rfl dX16_without_212 rfl ?_
      refine md_put mdp_88 ?_
      refine ks_aload_n dX16_without_215 rfl rfl ?_
      refine ks_iload dX16_without_216 rfl rfl ?_
      refine ks_putf (T := TX16) (kf := 89) kx_2457 rfl in_X16 tyX16_ok nmX16 cl_X16 (by decide) (ks_set_same _ _ _) (Nat.le_of_ble_eq_true rfl) rfl rfl rfl rfl dX16_without_218 rfl ?_
      refine md_put mdp_89 ?_
      refine ks_ret rfl dX16_without_221 ?_
      refine ⟨rfl, _, ⟨(hu.mono (fun x hx => by simp only [List.mem_cons, List.not_mem_nil, or_false] at hx ⊢; omega)).trans (((ks_up_set (L := LCt) _ _ (by decide)).trans (ks_up_set _ _ (by decide))).trans (ks_up_set _ _ (by decide))), ks_set_same _ _ _, fun k h1 h2 h3 h4 => (va_up_ne _ _ h4).trans ((va_up_ne _ _ h3).trans ((va_up_ne _ _ h2).trans (hv k h1)))⟩, b, a, gb, ga, by omega, (va_up_ne _ _ (by decide)).trans ((va_up_ne _ _ (by decide)).trans (va_up_self _ _ _)), (va_up_ne _ _ (by decide)).trans (va_up_self _ _ _), ((ks_set_ne _ _ (by omega)).trans ((ks_set_ne _ _ (by omega)).trans ((ks_set_ne _ _ (by omega)).trans e1))), kgb, ((ks_set_ne _ _ (by omega)).trans ((ks_set_ne _ _ (by omega)).trans ((ks_set_ne _ _ (by omega)).trans a1))), ka, by rw [va_up_self, hl], by rw [hl]; omega, by rw [hl]; exact eb'⟩
    | succ f ih =>
      intro i t S1 V1 gb h1 h2 h3 hu o1 hv e1 kgb hr
      have w87 := (hv 87 (by decide)).trans v87
      have w88 := (hv 88 (by decide)).trans v88
      have w89 := (hv 89 (by decide)).trans v89
      have a1 := hu.at ea (by simp only [List.mem_cons, List.not_mem_nil, or_false, not_or]; omega)
      have y1 := hu.at hy (by simp only [List.mem_cons, List.not_mem_nil, or_false, not_or]; exact ⟨yO, yb⟩)
      refine ks_iload dX16_without_26 rfl rfl ?_
      refine ks_aload_n dX16_without_28 rfl rfl ?_
      refine ks_getf (T := TX16) (kf := 89) kx_2457 rfl in_X16 cl_X16 (by decide) o1 rfl dX16_without_29 rfl ?_
      refine ks_tv (w89) ?_
      refine ks_icmp_geN (tgt := 195) (by omega) (by omega) dX16_without_32 (by decide) rfl (fun h4 => ?_) (fun h4 => ?_)
      · have hl : (fl_ (fun o x => isSg o x (bytL gy 0 n)) c).length = t := by
          rw [← hr, show L - i = 0 by omega]
          show (bytL gb 0 t ++ []).length = t
          rw [List.append_nil, bytL_len]
        have eb' : fl_ (fun o x => isSg o x (bytL gy 0 n)) c = bytL gb 0 t := by
          rw [← hr, show L - i = 0 by omega]
          show bytL gb 0 t ++ [] = _
          rw [List.append_nil]
        refine ks_aload_n dX16_without_195 rfl rfl ?_
        refine ks_getf (T := TX16) (kf := 87) kx_2455 rfl in_X16 cl_X16 (by decide) o1 rfl dX16_without_196 rfl ?_
        refine ks_tv (w87) ?_
        refine ks_astore dX16_without_199 (by decide) rfl ?_
        refine ks_sub [(6, _), (0, _), (1, _), (2, _), (3, _), (4, _), (5, _)] rfl ?_
        refine ks_aload_n dX16_without_201 rfl rfl ?_
        refine ks_aload_n dX16_without_202 rfl rfl ?_
        refine ks_getf (T := TX16) (kf := 88) kx_2456 rfl in_X16 cl_X16 (by decide) o1 rfl dX16_without_203 rfl ?_
        refine ks_tv (w88) ?_
        refine ks_putf (T := TX16) (kf := 87) kx_2455 rfl in_X16 tyX16_ok nmX16 cl_X16 (by decide) o1 (Nat.le_of_ble_eq_true rfl) rfl rfl rfl rfl dX16_without_206 rfl ?_
        refine md_put mdp_87 ?_
        refine ks_aload_n dX16_without_209 rfl rfl ?_
        refine ks_aload dX16_without_210 rfl rfl ?_
        refine ks_putf (T := TX16) (kf := 88) kx_2456 rfl in_X16 tyX16_ok nmX16 cl_X16 (by decide) (ks_set_same _ _ _) (Nat.le_of_ble_eq_true rfl) rfl rfl rfl rfl dX16_without_212 rfl ?_
        refine md_put mdp_88 ?_
        refine ks_aload_n dX16_without_215 rfl rfl ?_
        refine ks_iload dX16_without_216 rfl rfl ?_
        refine ks_putf (T := TX16) (kf := 89) kx_2457 rfl in_X16 tyX16_ok nmX16 cl_X16 (by decide) (ks_set_same _ _ _) (Nat.le_of_ble_eq_true rfl) rfl rfl rfl rfl dX16_without_218 rfl ?_
        refine md_put mdp_89 ?_
        refine ks_ret rfl dX16_without_221 ?_
        refine ⟨rfl, _, ⟨(hu.mono (fun x hx => by simp only [List.mem_cons, List.not_mem_nil, or_false] at hx ⊢; omega)).trans (((ks_up_set (L := LCt) _ _ (by decide)).trans (ks_up_set _ _ (by decide))).trans (ks_up_set _ _ (by decide))), ks_set_same _ _ _, fun k h1 h2 h3 h4 => (va_up_ne _ _ h4).trans ((va_up_ne _ _ h3).trans ((va_up_ne _ _ h2).trans (hv k h1)))⟩, b, a, gb, ga, by omega, (va_up_ne _ _ (by decide)).trans ((va_up_ne _ _ (by decide)).trans (va_up_self _ _ _)), (va_up_ne _ _ (by decide)).trans (va_up_self _ _ _), ((ks_set_ne _ _ (by omega)).trans ((ks_set_ne _ _ (by omega)).trans ((ks_set_ne _ _ (by omega)).trans e1))), kgb, ((ks_set_ne _ _ (by omega)).trans ((ks_set_ne _ _ (by omega)).trans ((ks_set_ne _ _ (by omega)).trans a1))), ka, by rw [va_up_self, hl], by rw [hl]; omega, by rw [hl]; exact eb'⟩
      · have sa0 := isSg_at (g := ga) (gy := gy) ka (show i < L by omega) hn9
        rw [← eh] at sa0
        have sa := fun _ : Unit => sa0
        clear sa0
        have yes : (i + h + n ≤ L ∧ ga i = (if n < 76 then n else 76) ∧ (n < 76 ∨ ga (i + 1) = n) ∧ (∀ j, j < n → ga (i + h + j) = gy j)) → ks_X l G mX16_without (d + 2) 117 [(0, .ref 290), (1, .ref y), (2, .int (nI n)), (3, .int (nI h)), (4, .int (nI i)), (5, .int (nI t))] [.int (ks_bo true)] S1 (fun z S' => z = none ∧ ∃ V', ctK S S' V V' ∧ ctX S' V' (fl_ (fun o x => isSg o x (bytL gy 0 n)) c)) := by
          intro hs
          obtain ⟨k, k1, k2, k3⟩ := (sa ()).mp hs
          refine ks_istore dX16_without_117 (by decide) rfl ?_
          refine ks_sub [(6, _), (0, _), (1, _), (2, _), (3, _), (4, _), (5, _)] rfl ?_
          refine ks_iload dX16_without_119 rfl rfl ?_
          refine ks_if_eqZ (tgt := 135) dX16_without_121 (by decide) rfl (fun h5 => ?_) (fun h5 => ?_)
          · exact absurd h5 (by decide)
          · refine ks_iload dX16_without_124 rfl rfl ?_
            refine ks_iload_n dX16_without_126 rfl rfl ?_
            refine ks_iload_n dX16_without_127 rfl rfl ?_
            refine ks_addN dX16_without_128 rfl ?_
            refine ks_addN dX16_without_129 rfl ?_
            refine ks_istore dX16_without_130 (by decide) rfl ?_
            refine ks_sub [(4, _), (0, _), (1, _), (2, _), (3, _), (5, _), (6, _)] rfl ?_
            refine ks_goto (tgt := 26) dX16_without_132 (by decide) ?_
            have kL : k ≤ L - i := by have := (afL_b k1).2.1; rw [bytL_len] at this; exact this
            have e9 : i + (h + n) = i + k := by omega
            refine ks_sub [(0, _), (1, _), (2, _), (3, _), (4, .int (nI (i + k))), (5, _)] (by rw [← e9]; rfl) (ih (i + k) t S1 V1 gb (by omega) (by omega) (by omega) hu o1 hv e1 kgb ?_)
            rw [← hr, fl_s k1, if_pos k3, List.nil_append, bytL_drop _ _ kL, show L - i - k = L - (i + k) by omega]
        have no : ¬ (i + h + n ≤ L ∧ ga i = (if n < 76 then n else 76) ∧ (n < 76 ∨ ga (i + 1) = n) ∧ (∀ j, j < n → ga (i + h + j) = gy j)) → ks_X l G mX16_without (d + 2) 117 [(0, .ref 290), (1, .ref y), (2, .int (nI n)), (3, .int (nI h)), (4, .int (nI i)), (5, .int (nI t))] [.int (ks_bo false)] S1 (fun z S' => z = none ∧ ∃ V', ctK S S' V V' ∧ ctX S' V' (fl_ (fun o x => isSg o x (bytL gy 0 n)) c)) := by
          intro hs
          refine ks_istore dX16_without_117 (by decide) rfl ?_
          refine ks_sub [(6, _), (0, _), (1, _), (2, _), (3, _), (4, _), (5, _)] rfl ?_
          refine ks_iload dX16_without_119 rfl rfl ?_
          refine ks_if_eqZ (tgt := 135) dX16_without_121 (by decide) rfl (fun h5 => ?_) (fun h5 => ?_)
          · refine ks_aload_n dX16_without_135 rfl rfl ?_
            refine ks_aload_n dX16_without_136 rfl rfl ?_
            refine ks_getf (T := TX16) (kf := 87) kx_2455 rfl in_X16 cl_X16 (by decide) o1 rfl dX16_without_137 rfl ?_
            refine ks_tv (w87) ?_
            refine ks_iload dX16_without_140 rfl rfl ?_
            refine ks_aload_n dX16_without_142 rfl rfl ?_
            refine ks_getf (T := TX16) (kf := 89) kx_2457 rfl in_X16 cl_X16 (by decide) o1 rfl dX16_without_143 rfl ?_
            refine ks_tv (w89) ?_
            refine ks_callV (n := 3) (M' := mX16_behind) (c_md_behind (d := d) o1 a1 ka (by decide) hcl (i := i) (by omega)) o1 cl_X16 rfl kx_2154 kx_2156 kxp_85 kx_30 kx_2157 (by decide +kernel) rfl (by decide) (Nat.le_of_ble_eq_true rfl) rfl dX16_without_146 rfl (fun z2 S2 y2 => ?_)
            obtain ⟨rfl, V2, K2, -⟩ := y2
            have o2 := K2.2.1
            have hu2 : ks_up S S2 [290, b] := hu.trans (K2.1.mono (by simp))
            have hv2 : ∀ k, k ≠ 63 → V2 k = V k := fun k h => (K2.2.2 k h).trans (hv k h)
            have x87 := (hv2 87 (by decide)).trans v87
            have x88 := (hv2 88 (by decide)).trans v88
            have x89 := (hv2 89 (by decide)).trans v89
            have a2 := K2.1.at a1 (by rw [List.mem_singleton]; omega)
            have b2 := K2.1.at e1 (by rw [List.mem_singleton]; omega)
            rcases aftI_cases ga i L with ⟨an, ae⟩ | ⟨k, an, ae, k1, k2, -⟩
            · rw [ae]
              refine ks_istore dX16_without_149 (by decide) rfl ?_
              refine ks_sub [(7, _), (0, _), (1, _), (2, _), (3, _), (4, _), (5, _), (6, _)] rfl ?_
              refine ks_iload dX16_without_151 rfl rfl ?_
              refine ks_if_ge (tgt := 162) dX16_without_153 (by decide) rfl (fun h6 => ?_) (fun h6 => ?_)
              · exact absurd h6 (by decide)
              · refine ks_aload_n dX16_without_156 rfl rfl ?_
                refine ks_getf (T := TX16) (kf := 89) kx_2457 rfl in_X16 cl_X16 (by decide) o2 rfl dX16_without_157 rfl ?_
                refine ks_tv x89 ?_
                refine ks_istore dX16_without_160 (by decide) rfl ?_
                refine ks_sub [(7, _), (0, _), (1, _), (2, _), (3, _), (4, _), (5, _), (6, _)] rfl ?_
                refine ks_sub [(0, _), (1, _), (2, _), (3, _), (4, .int (nI (i + 0))), (5, .int (nI (t + 0))), (7, _)] rfl (l_woCp (d := d + 2) o2 hab x87 x88 x89 hcl a2 ka b2 kgb h3 (nx := L) (by omega) (by omega) (fun S3 u3 e3 => ?_) (L - i) 0 S2 (by omega) (ks_up.rf _ _) (by rw [ks_pt_0]; exact b2))
                have o3 := u3.at o2 (by rw [List.mem_singleton]; omega)
                refine ks_goto (tgt := 26) dX16_without_192 (by decide) ?_
                refine ks_sub [(0, _), (1, _), (2, _), (3, _), (4, _), (5, _)] rfl (ih (L) (t + (L - i)) S3 V2 _ (by omega) (by omega) (by omega) (hu2.trans (u3.mono (by simp))) o3 hv2 e3 (kO_pt (fun j => ka _) kgb _ _) ?_)
                rw [bytL_pt2, ← hr, List.append_assoc]
                congr 1
                rw [fl_n an, show L - L = 0 by omega]
                show bytL (fun j => ga (i + j)) 0 (L - i) ++ [] = _
                rw [List.append_nil]
                exact bytL_congr (fun j hj => by rw [Nat.zero_add])
            · rw [ae]
              have ed := bytL_drop ga i k2
              have ns : ¬ isSg ((bytL ga i (L - i)).headD 0) (((bytL ga i (L - i)).take k).drop (hdS ((bytL ga i (L - i)).headD 0))) (bytL gy 0 n) = true := fun h9 => hs ((sa ()).mpr ⟨k, an, by rw [eh]; exact isSg_k ka (by omega) hn9 an h9, h9⟩)
              refine ks_istore dX16_without_149 (by decide) rfl ?_
              refine ks_sub [(7, _), (0, _), (1, _), (2, _), (3, _), (4, _), (5, _), (6, _)] rfl ?_
              refine ks_iload dX16_without_151 rfl rfl ?_
              refine ks_if_geN (tgt := 162) (by omega) dX16_without_153 (by decide) ?_
              refine ks_sub [(0, _), (1, _), (2, _), (3, _), (4, .int (nI (i + 0))), (5, .int (nI (t + 0))), (7, _)] rfl (l_woCp (d := d + 2) o2 hab x87 x88 x89 hcl a2 ka b2 kgb h3 (nx := i + k) (by omega) (by omega) (fun S3 u3 e3 => ?_) (i + k - i) 0 S2 (by omega) (ks_up.rf _ _) (by rw [ks_pt_0]; exact b2))
              have o3 := u3.at o2 (by rw [List.mem_singleton]; omega)
              refine ks_goto (tgt := 26) dX16_without_192 (by decide) ?_
              refine ks_sub [(0, _), (1, _), (2, _), (3, _), (4, _), (5, _)] rfl (ih (i + k) (t + (i + k - i)) S3 V2 _ (by omega) (by omega) (by omega) (hu2.trans (u3.mono (by simp))) o3 hv2 e3 (kO_pt (fun j => ka _) kgb _ _) ?_)
              rw [bytL_pt2, ← hr, List.append_assoc]
              congr 1
              rw [fl_s an, if_neg ns, bytL_take _ _ k2, ed, show i + k - i = k by omega, show L - i - k = L - (i + k) by omega]
              congr 1
              exact bytL_congr (fun j hj => by rw [Nat.zero_add])
          · exact absurd h5 (by decide)
        have gi := ka i
        have gi1 := ka (i + 1)
        refine ks_iload dX16_without_35 rfl rfl ?_
        refine ks_iload_n dX16_without_37 rfl rfl ?_
        refine ks_addN dX16_without_38 rfl ?_
        refine ks_iload_n dX16_without_39 rfl rfl ?_
        refine ks_addN dX16_without_40 rfl ?_
        refine ks_aload_n dX16_without_41 rfl rfl ?_
        refine ks_getf (T := TX16) (kf := 89) kx_2457 rfl in_X16 cl_X16 (by decide) o1 rfl dX16_without_42 rfl ?_
        refine ks_tv (w89) ?_
        refine ks_icmp_gtN (tgt := 116) (by omega) (by omega) dX16_without_45 (by decide) rfl (fun g1 => ?_) (fun g1 => ?_)
        · refine ks_iconst (x := nI 0) dX16_without_116 (by decide) rfl ?_
          exact ks_sub [(0, _), (1, _), (2, _), (3, _), (4, _), (5, _)] rfl (no (fun h9 => absurd h9.1 (by omega)))
        · refine ks_aload_n dX16_without_48 rfl rfl ?_
          refine ks_getf (T := TX16) (kf := 87) kx_2455 rfl in_X16 cl_X16 (by decide) o1 rfl dX16_without_49 rfl ?_
          refine ks_tv (w87) ?_
          refine ks_iload dX16_without_52 rfl rfl ?_
          refine ks_baldB (i := i) a1 rfl (by omega) (by decide) dX16_without_54 rfl ?_
          refine ks_sipush (x := nI 255) dX16_without_55 (by decide) rfl ?_
          refine ks_andB (ka _) dX16_without_58 rfl ?_
          have hy58 : ga i < 256 := (ka _)
          refine ks_iload_n dX16_without_59 rfl rfl ?_
          refine ks_iconst (x := nI 1) dX16_without_60 (by decide) rfl ?_
          refine ks_icmp_neN (tgt := 68) (by omega) (by decide) dX16_without_61 (by decide) rfl (fun g2 => ?_) (fun g2 => ?_)
          · have n76 : ¬ n < 76 := by omega
            refine ks_bipush (x := nI 76) dX16_without_68 (by decide) rfl ?_
            refine ks_icmp_neN (tgt := 116) (by omega) (by decide) dX16_without_70 (by decide) rfl (fun g3 => ?_) (fun g3 => ?_)
            · refine ks_iconst (x := nI 0) dX16_without_116 (by decide) rfl ?_
              exact ks_sub [(0, _), (1, _), (2, _), (3, _), (4, _), (5, _)] rfl (no (fun h9 => by have := h9.2.1; rw [if_neg n76] at this; omega))
            · refine ks_iload_n dX16_without_73 rfl rfl ?_
              refine ks_iconst (x := nI 1) dX16_without_74 (by decide) rfl ?_
              refine ks_icmp_eqN (tgt := 95) (by omega) (by decide) dX16_without_75 (by decide) rfl (fun g4 => ?_) (fun g4 => ?_)
              · omega
              · refine ks_aload_n dX16_without_78 rfl rfl ?_
                refine ks_getf (T := TX16) (kf := 87) kx_2455 rfl in_X16 cl_X16 (by decide) o1 rfl dX16_without_79 rfl ?_
                refine ks_tv (w87) ?_
                refine ks_iload dX16_without_82 rfl rfl ?_
                refine ks_iconst (x := nI 1) dX16_without_84 (by decide) rfl ?_
                refine ks_addN dX16_without_85 rfl ?_
                refine ks_baldB (i := i + 1) a1 rfl (by omega) (by decide) dX16_without_86 rfl ?_
                refine ks_sipush (x := nI 255) dX16_without_87 (by decide) rfl ?_
                refine ks_andB (ka _) dX16_without_90 rfl ?_
                have hy90 : ga (i + 1) < 256 := (ka _)
                refine ks_iload_n dX16_without_91 rfl rfl ?_
                refine ks_icmp_neN (tgt := 116) (by omega) (by omega) dX16_without_92 (by decide) rfl (fun g4b => ?_) (fun g4b => ?_)
                · refine ks_iconst (x := nI 0) dX16_without_116 (by decide) rfl ?_
                  exact ks_sub [(0, _), (1, _), (2, _), (3, _), (4, _), (5, _)] rfl (no (fun h9 => by have := h9.2.2.1; omega))
                · refine ks_aload_n dX16_without_95 rfl rfl ?_
                  refine ks_getf (T := TX16) (kf := 87) kx_2455 rfl in_X16 cl_X16 (by decide) o1 rfl dX16_without_96 rfl ?_
                  refine ks_tv (w87) ?_
                  refine ks_iload dX16_without_99 rfl rfl ?_
                  refine ks_iload_n dX16_without_101 rfl rfl ?_
                  refine ks_addN dX16_without_102 rfl ?_
                  refine ks_aload_n dX16_without_103 rfl rfl ?_
                  refine ks_iconst (x := nI 0) dX16_without_104 (by decide) rfl ?_
                  refine ks_iload_n dX16_without_105 rfl rfl ?_
                  refine ks_callS (n := 5) (M' := mX16_alike) (c_md_alike (d := d + 1) a1 ka y1 ky (i := i + h) (k := 0) (n := n) (by omega) (by omega) (by decide) hN) kx_2134 kx_2135 kx_30 kx_2136 (by decide +kernel) rfl (by decide) (Nat.le_of_ble_eq_true rfl) rfl dX16_without_106 rfl (fun z3 S3 y3 => ?_)
                  obtain ⟨rfl, hT3⟩ := y3
                  obtain rfl := hT3.symm
                  refine ks_if_eqZ (tgt := 116) dX16_without_109 (by decide) rfl (fun g5 => ?_) (fun g5 => ?_)
                  · have g6 := of_decide_eq_false g5
                    refine ks_iconst (x := nI 0) dX16_without_116 (by decide) rfl ?_
                    exact ks_sub [(0, _), (1, _), (2, _), (3, _), (4, _), (5, _)] rfl (no (fun h9 => g6 (fun j hj => by rw [Nat.zero_add]; exact h9.2.2.2 j hj)))
                  · have g6 := of_decide_eq_true g5
                    refine ks_iconst (x := nI 1) dX16_without_112 (by decide) rfl ?_
                    refine ks_goto (tgt := 117) dX16_without_113 (by decide) ?_
                    exact ks_sub [(0, _), (1, _), (2, _), (3, _), (4, _), (5, _)] rfl (yes ⟨by omega, by rw [if_neg n76]; omega, by omega, fun j hj => by have := g6 j hj; rw [Nat.zero_add] at this; exact this⟩)
          · have n76 : n < 76 := by omega
            refine ks_iload_n dX16_without_64 rfl rfl ?_
            refine ks_goto (tgt := 70) dX16_without_65 (by decide) ?_
            refine ks_icmp_neN (tgt := 116) (by omega) (by omega) dX16_without_70 (by decide) rfl (fun g3 => ?_) (fun g3 => ?_)
            · refine ks_iconst (x := nI 0) dX16_without_116 (by decide) rfl ?_
              exact ks_sub [(0, _), (1, _), (2, _), (3, _), (4, _), (5, _)] rfl (no (fun h9 => by have := h9.2.1; rw [if_pos n76] at this; omega))
            · refine ks_iload_n dX16_without_73 rfl rfl ?_
              refine ks_iconst (x := nI 1) dX16_without_74 (by decide) rfl ?_
              refine ks_icmp_eqN (tgt := 95) (by omega) (by decide) dX16_without_75 (by decide) rfl (fun g4 => ?_) (fun g4 => ?_)
              · refine ks_aload_n dX16_without_95 rfl rfl ?_
                refine ks_getf (T := TX16) (kf := 87) kx_2455 rfl in_X16 cl_X16 (by decide) o1 rfl dX16_without_96 rfl ?_
                refine ks_tv (w87) ?_
                refine ks_iload dX16_without_99 rfl rfl ?_
                refine ks_iload_n dX16_without_101 rfl rfl ?_
                refine ks_addN dX16_without_102 rfl ?_
                refine ks_aload_n dX16_without_103 rfl rfl ?_
                refine ks_iconst (x := nI 0) dX16_without_104 (by decide) rfl ?_
                refine ks_iload_n dX16_without_105 rfl rfl ?_
                refine ks_callS (n := 5) (M' := mX16_alike) (c_md_alike (d := d + 1) a1 ka y1 ky (i := i + h) (k := 0) (n := n) (by omega) (by omega) (by decide) hN) kx_2134 kx_2135 kx_30 kx_2136 (by decide +kernel) rfl (by decide) (Nat.le_of_ble_eq_true rfl) rfl dX16_without_106 rfl (fun z3 S3 y3 => ?_)
                obtain ⟨rfl, hT3⟩ := y3
                obtain rfl := hT3.symm
                refine ks_if_eqZ (tgt := 116) dX16_without_109 (by decide) rfl (fun g5 => ?_) (fun g5 => ?_)
                · have g6 := of_decide_eq_false g5
                  refine ks_iconst (x := nI 0) dX16_without_116 (by decide) rfl ?_
                  exact ks_sub [(0, _), (1, _), (2, _), (3, _), (4, _), (5, _)] rfl (no (fun h9 => g6 (fun j hj => by rw [Nat.zero_add]; exact h9.2.2.2 j hj)))
                · have g6 := of_decide_eq_true g5
                  refine ks_iconst (x := nI 1) dX16_without_112 (by decide) rfl ?_
                  refine ks_goto (tgt := 117) dX16_without_113 (by decide) ?_
                  exact ks_sub [(0, _), (1, _), (2, _), (3, _), (4, _), (5, _)] rfl (yes ⟨by omega, by rw [if_pos n76]; omega, by omega, fun j hj => by have := g6 j hj; rw [Nat.zero_add] at this; exact this⟩)
              · omega
  refine ks_of (by decide) rfl rfl (Nat.le_of_ble_eq_true rfl) ?_
  show ks_X l G mX16_without (d + 2) 0 [(0, .ref 290), (1, .ref y), (2, .int (nI n))] [] S _
  refine ks_iload_n dX16_without_0 rfl rfl ?_
  refine ks_sipush (x := nI 255) dX16_without_1 (by decide) rfl ?_
  refine ks_icmp_leN (tgt := 8) (by omega) (by decide) dX16_without_4 (by decide) rfl (fun h1 => ?_) (fun h1 => absurd h1 (by omega))
  refine ks_iload_n dX16_without_8 rfl rfl ?_
  refine ks_bipush (x := nI 76) dX16_without_9 (by decide) rfl ?_
  refine ks_icmp_geN (tgt := 18) (by omega) (by decide) dX16_without_11 (by decide) rfl (fun h2 => ?_) (fun h2 => ?_)
  · refine ks_iconst (x := nI 2) dX16_without_18 (by decide) rfl ?_
    refine ks_istore_n dX16_without_19 (by decide) rfl ?_
    refine ks_sub [(3, _), (0, _), (1, _), (2, _)] rfl ?_
    refine ks_iconst (x := nI 0) dX16_without_20 (by decide) rfl ?_
    refine ks_istore dX16_without_21 (by decide) rfl ?_
    refine ks_sub [(4, _), (0, _), (1, _), (2, _), (3, _)] rfl ?_
    refine ks_iconst (x := nI 0) dX16_without_23 (by decide) rfl ?_
    refine ks_istore dX16_without_24 (by decide) rfl ?_
    refine ks_sub [(5, _), (0, _), (1, _), (2, _), (3, _), (4, _)] rfl ?_
    have e9 : h = 2 := by rw [eh, if_neg (by omega)]
    exact ks_sub [(0, _), (1, _), (2, _), (3, .int (nI h)), (4, _), (5, _)] (by rw [e9]; rfl) (loop L 0 0 S V gb0 (by omega) (by omega) (by omega) (ks_up.rf _ _) hO (fun _ _ => rfl) eb0 kb0 (by rw [Nat.sub_zero, ← ec]; rfl))
  · refine ks_iconst (x := nI 1) dX16_without_14 (by decide) rfl ?_
    refine ks_goto (tgt := 19) dX16_without_15 (by decide) ?_
    refine ks_istore_n dX16_without_19 (by decide) rfl ?_
    refine ks_sub [(3, _), (0, _), (1, _), (2, _)] rfl ?_
    refine ks_iconst (x := nI 0) dX16_without_20 (by decide) rfl ?_
    refine ks_istore dX16_without_21 (by decide) rfl ?_
    refine ks_sub [(4, _), (0, _), (1, _), (2, _), (3, _)] rfl ?_
    refine ks_iconst (x := nI 0) dX16_without_23 (by decide) rfl ?_
    refine ks_istore dX16_without_24 (by decide) rfl ?_
    refine ks_sub [(5, _), (0, _), (1, _), (2, _), (3, _), (4, _)] rfl ?_
    have e9 : h = 1 := by rw [eh, if_pos (by omega)]
    exact ks_sub [(0, _), (1, _), (2, _), (3, .int (nI h)), (4, _), (5, _)] (by rw [e9]; rfl) (loop L 0 0 S V gb0 (by omega) (by omega) (by omega) (ks_up.rf _ _) hO (fun _ _ => rfl) eb0 kb0 (by rw [Nat.sub_zero, ← ec]; rfl))
