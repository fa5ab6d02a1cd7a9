/-! THE REFERENCE: the stack's small steps -/
/-- the machine's elements; F: how many places of the tables are free -/
def rsQ (S : ks_S) (V : Nat → Value) (F : Nat) (xs ys : List (List Nat)) (vs : Vs) : Prop := ∃ T sz oz vz, rsK S V T sz oz vz xs ys vs ∧ frT T = F ∧ ∃ g, kO g ∧ S.2.2 367 = some (kB 9 g)
abbrev LSk : List Nat := [290, 361, 362, 363, 364, 367]
/-- a step of the stack: what stays -/
def msK (S S' : ks_S) (V V' : Nat → Value) (F F' : Nat) : Prop := sfK LSk S S' F F' ∧ S'.2.2 290 = some (rfE V') ∧ ∀ k, k ≠ 67 → k ≠ 70 → k ≠ 74 → V' k = V k
theorem msK.trans {S S1 S2 : ks_S} {V V1 V2 : Nat → Value} {F F1 F2 : Nat} (h : msK S S1 V V1 F F1) (k : msK S1 S2 V1 V2 F1 F2) : msK S S2 V V2 F F2 := ⟨h.1.trans k.1, k.2.1, fun j h1 h2 h3 => (k.2.2 j h1 h2 h3).trans (h.2.2 j h1 h2 h3)⟩
theorem msK.rf {S : ks_S} {V : Nat → Value} {F : Nat} (h : S.2.2 290 = some (rfE V)) : msK S S V V F F := ⟨sfK.rf _ _ _, h, fun _ _ _ _ => rfl⟩
/-- a step that may fail -/
def stK (S S' : ks_S) (V : Nat → Value) (F : Nat) (ok : Prop) (xs xs' ys : List (List Nat)) (vs : Vs) : Prop := ∃ V' F', msK S S' V V' F F' ∧ ((ok ∧ V' 74 = V 74 ∧ rsQ S' V' F' xs' ys vs) ∨ (¬ ok ∧ V' 74 = .int (ks_bo true) ∧ rsQ S' V' F' xs ys vs))
theorem msK.fail {S : ks_S} {V : Nat → Value} {F : Nat} {xs ys : List (List Nat)} {vs : Vs} (hO : S.2.2 290 = some (rfE V)) (h : rsQ S V F xs ys vs) : msK S (ks_set S 290 (rfE (va_up V 74 (.int (ks_bo true))))) V (va_up V 74 (.int (ks_bo true))) F F ∧ rsQ (ks_set S 290 (rfE (va_up V 74 (.int (ks_bo true))))) (va_up V 74 (.int (ks_bo true))) F xs ys vs := by
  obtain ⟨T, sz, oz, vz, hK, hF, gS, kS, h367⟩ := h
  exact ⟨⟨sfK.of (ks_up_set _ _ (by decide)), ks_set_same _ _ _, fun k _ _ h3 => va_up_ne _ _ h3⟩, T, sz, oz, vz, hK.obj hO ⟨va_up_ne _ _ (by decide), va_up_ne _ _ (by decide), va_up_ne _ _ (by decide)⟩, hF, gS, kS, (ks_set_ne _ _ (by decide)).trans h367⟩
set_option maxRecDepth 100000 in
set_option maxHeartbeats 800000 in
theorem c_rs_need {l : Launch} {G : ks_G} {d : Nat} {S : ks_S} {V : Nat → Value} {F : Nat} {xs ys : List (List Nat)} {vs : Vs} (hO : S.2.2 290 = some (rfE V)) (hK : rsQ S V F xs ys vs) {n : Nat} (hn : n < 2 ^ 30) : ks_P l G yX16_need mX16_need d [.ref 290, .int (nI n)] S (fun z S' => z = some (.int (ks_bo (decide (n ≤ xs.length)))) ∧ (n ≤ xs.length → S' = S) ∧ (¬ n ≤ xs.length → S' = ks_set S 290 (rfE (va_up V 74 (.int (ks_bo true)))))) := by
  obtain ⟨T, sz, oz, vz, hK', rfl, gS, kS, h367⟩ := hK
  have hK := hK'
  obtain ⟨hT, ⟨h362, h364, h366⟩, ⟨v67, v70, v73⟩, ⟨bx, by9, bv⟩, hx, hys, hvs, hU⟩ := id hK
  refine ks_of (by decide) rfl rfl (Nat.le_of_ble_eq_true rfl) ?_
  show ks_X l G mX16_need d 0 [(0, .ref 290), (1, .int (nI n))] [] S _
  refine ks_aload_n dX16_need_0 rfl rfl ?_
  refine ks_getf (T := TX16) (kf := 67) kx_2435 rfl in_X16 cl_X16 (by decide) hO rfl dX16_need_1 rfl ?_
  refine ks_tv v67 ?_
  refine ks_iload_n dX16_need_4 rfl rfl ?_
  refine ks_icmp_geN (tgt := 13) (by omega) (by omega) dX16_need_5 (by decide) rfl (fun h1 => ?_) (fun h1 => ?_)
  · refine ks_aload_n dX16_need_13 rfl rfl ?_
    refine ks_getf (T := TX16) (kf := 67) kx_2435 rfl in_X16 cl_X16 (by decide) hO rfl dX16_need_14 rfl ?_
    refine ks_tv v67 ?_
    refine ks_iload_n dX16_need_17 rfl rfl ?_
    refine ks_icmp_ltN (tgt := 25) (by omega) (by omega) dX16_need_18 (by decide) rfl (fun h2 => ?_) (fun h2 => ?_)
    · omega
    · refine ks_iconst (x := nI 1) dX16_need_21 (by decide) rfl ?_
      refine ks_goto (tgt := 26) dX16_need_22 (by decide) ?_
      refine ks_zret rfl rfl dX16_need_26 ?_
      rw [decide_eq_true (p := n ≤ xs.length) (by omega)]
      exact ⟨rfl, fun _ => rfl, fun h => by omega⟩
  · refine ks_aload_n dX16_need_8 rfl rfl ?_
    refine ks_iconst (x := nI 1) dX16_need_9 (by decide) rfl ?_
    refine ks_putf (T := TX16) (kf := 74) kx_2442 rfl in_X16 tyX16_ok nmX16 cl_X16 (by decide) hO (Nat.le_of_ble_eq_true rfl) rfl rfl rfl rfl dX16_need_10 rfl ?_
    refine md_put mdp_74 ?_
    refine ks_aload_n dX16_need_13 rfl rfl ?_
    refine ks_getf (T := TX16) (kf := 67) kx_2435 rfl in_X16 cl_X16 (by decide) (ks_set_same _ _ _) rfl dX16_need_14 rfl ?_
    refine ks_tv ((va_up_ne _ _ (by decide)).trans v67) ?_
    refine ks_iload_n dX16_need_17 rfl rfl ?_
    refine ks_icmp_ltN (tgt := 25) (by omega) (by omega) dX16_need_18 (by decide) rfl (fun h2 => ?_) (fun h2 => ?_)
    · refine ks_iconst (x := nI 0) dX16_need_25 (by decide) rfl ?_
      refine ks_zret rfl rfl dX16_need_26 ?_
      rw [decide_eq_false (p := n ≤ xs.length) (by omega)]
      exact ⟨rfl, fun h => by omega, fun _ => rfl⟩
    · omega
set_option maxRecDepth 100000 in
set_option maxHeartbeats 800000 in
theorem c_md_never {l : Launch} {G : ks_G} {d : Nat} {S : ks_S} {op : Nat} (hop : op < 256) : ks_P l G yX16_never mX16_never d [.int (nI op)] S (fun z S' => z = some (.int (ks_bo (badO op))) ∧ S' = S) := by
  refine ks_of (by decide) rfl rfl (Nat.le_of_ble_eq_true rfl) ?_
  show ks_X l G mX16_never d 0 [(0, .int (nI op))] [] S _
  refine ks_iload_n dX16_never_0 rfl rfl ?_
  refine ks_bipush (x := nI 126) dX16_never_1 (by decide) rfl ?_
  refine ks_icmp_ltN (tgt := 13) (by omega) (by decide) dX16_never_3 (by decide) rfl (fun hc3 => ?_) (fun hc3 => ?_)
  · refine ks_iload_n dX16_never_13 rfl rfl ?_
    refine ks_sipush (x := nI 131) dX16_never_14 (by decide) rfl ?_
    refine ks_icmp_ltN (tgt := 27) (by omega) (by decide) dX16_never_17 (by decide) rfl (fun hc17 => ?_) (fun hc17 => ?_)
    · refine ks_iload_n dX16_never_27 rfl rfl ?_
      refine ks_sipush (x := nI 141) dX16_never_28 (by decide) rfl ?_
      refine ks_icmp_eqN (tgt := 67) (by omega) (by decide) dX16_never_31 (by decide) rfl (fun hc31 => ?_) (fun hc31 => ?_)
      · refine ks_iconst (x := nI 1) dX16_never_67 (by decide) rfl ?_
        refine ks_goto (tgt := 72) dX16_never_68 (by decide) ?_
        refine ks_zret rfl rfl dX16_never_72 ?_
        rw [show badO op = true from decide_eq_true (by omega)]
        exact ⟨rfl, rfl⟩
      · refine ks_iload_n dX16_never_34 rfl rfl ?_
        refine ks_sipush (x := nI 142) dX16_never_35 (by decide) rfl ?_
        refine ks_icmp_eqN (tgt := 67) (by omega) (by decide) dX16_never_38 (by decide) rfl (fun hc38 => ?_) (fun hc38 => ?_)
        · refine ks_iconst (x := nI 1) dX16_never_67 (by decide) rfl ?_
          refine ks_goto (tgt := 72) dX16_never_68 (by decide) ?_
          refine ks_zret rfl rfl dX16_never_72 ?_
          rw [show badO op = true from decide_eq_true (by omega)]
          exact ⟨rfl, rfl⟩
        · refine ks_iload_n dX16_never_41 rfl rfl ?_
          refine ks_sipush (x := nI 149) dX16_never_42 (by decide) rfl ?_
          refine ks_icmp_ltN (tgt := 55) (by omega) (by decide) dX16_never_45 (by decide) rfl (fun hc45 => ?_) (fun hc45 => ?_)
          · refine ks_iload_n dX16_never_55 rfl rfl ?_
            refine ks_bipush (x := nI 101) dX16_never_56 (by decide) rfl ?_
            refine ks_icmp_eqN (tgt := 67) (by omega) (by decide) dX16_never_58 (by decide) rfl (fun hc58 => ?_) (fun hc58 => ?_)
            · refine ks_iconst (x := nI 1) dX16_never_67 (by decide) rfl ?_
              refine ks_goto (tgt := 72) dX16_never_68 (by decide) ?_
              refine ks_zret rfl rfl dX16_never_72 ?_
              rw [show badO op = true from decide_eq_true (by omega)]
              exact ⟨rfl, rfl⟩
            · refine ks_iload_n dX16_never_61 rfl rfl ?_
              refine ks_bipush (x := nI 102) dX16_never_62 (by decide) rfl ?_
              refine ks_icmp_neN (tgt := 71) (by omega) (by decide) dX16_never_64 (by decide) rfl (fun hc64 => ?_) (fun hc64 => ?_)
              · refine ks_iconst (x := nI 0) dX16_never_71 (by decide) rfl ?_
                refine ks_zret rfl rfl dX16_never_72 ?_
                rw [show badO op = false from decide_eq_false (by omega)]
                exact ⟨rfl, rfl⟩
              · refine ks_iconst (x := nI 1) dX16_never_67 (by decide) rfl ?_
                refine ks_goto (tgt := 72) dX16_never_68 (by decide) ?_
                refine ks_zret rfl rfl dX16_never_72 ?_
                rw [show badO op = true from decide_eq_true (by omega)]
                exact ⟨rfl, rfl⟩
          · refine ks_iload_n dX16_never_48 rfl rfl ?_
            refine ks_sipush (x := nI 153) dX16_never_49 (by decide) rfl ?_
            refine ks_icmp_leN (tgt := 67) (by omega) (by decide) dX16_never_52 (by decide) rfl (fun hc52 => ?_) (fun hc52 => ?_)
            · refine ks_iconst (x := nI 1) dX16_never_67 (by decide) rfl ?_
              refine ks_goto (tgt := 72) dX16_never_68 (by decide) ?_
              refine ks_zret rfl rfl dX16_never_72 ?_
              rw [show badO op = true from decide_eq_true (by omega)]
              exact ⟨rfl, rfl⟩
            · refine ks_iload_n dX16_never_55 rfl rfl ?_
              refine ks_bipush (x := nI 101) dX16_never_56 (by decide) rfl ?_
              refine ks_icmp_eqN (tgt := 67) (by omega) (by decide) dX16_never_58 (by decide) rfl (fun hc58 => ?_) (fun hc58 => ?_)
              · refine ks_iconst (x := nI 1) dX16_never_67 (by decide) rfl ?_
                refine ks_goto (tgt := 72) dX16_never_68 (by decide) ?_
                refine ks_zret rfl rfl dX16_never_72 ?_
                rw [show badO op = true from decide_eq_true (by omega)]
                exact ⟨rfl, rfl⟩
              · refine ks_iload_n dX16_never_61 rfl rfl ?_
                refine ks_bipush (x := nI 102) dX16_never_62 (by decide) rfl ?_
                refine ks_icmp_neN (tgt := 71) (by omega) (by decide) dX16_never_64 (by decide) rfl (fun hc64 => ?_) (fun hc64 => ?_)
                · refine ks_iconst (x := nI 0) dX16_never_71 (by decide) rfl ?_
                  refine ks_zret rfl rfl dX16_never_72 ?_
                  rw [show badO op = false from decide_eq_false (by omega)]
                  exact ⟨rfl, rfl⟩
                · refine ks_iconst (x := nI 1) dX16_never_67 (by decide) rfl ?_
                  refine ks_goto (tgt := 72) dX16_never_68 (by decide) ?_
                  refine ks_zret rfl rfl dX16_never_72 ?_
                  rw [show badO op = true from decide_eq_true (by omega)]
                  exact ⟨rfl, rfl⟩
    · refine ks_iload_n dX16_never_20 rfl rfl ?_
      refine ks_sipush (x := nI 134) dX16_never_21 (by decide) rfl ?_
      refine ks_icmp_leN (tgt := 67) (by omega) (by decide) dX16_never_24 (by decide) rfl (fun hc24 => ?_) (fun hc24 => ?_)
      · refine ks_iconst (x := nI 1) dX16_never_67 (by decide) rfl ?_
        refine ks_goto (tgt := 72) dX16_never_68 (by decide) ?_
        refine ks_zret rfl rfl dX16_never_72 ?_
        rw [show badO op = true from decide_eq_true (by omega)]
        exact ⟨rfl, rfl⟩
      · refine ks_iload_n dX16_never_27 rfl rfl ?_
        refine ks_sipush (x := nI 141) dX16_never_28 (by decide) rfl ?_
        refine ks_icmp_eqN (tgt := 67) (by omega) (by decide) dX16_never_31 (by decide) rfl (fun hc31 => ?_) (fun hc31 => ?_)
        · refine ks_iconst (x := nI 1) dX16_never_67 (by decide) rfl ?_
          refine ks_goto (tgt := 72) dX16_never_68 (by decide) ?_
          refine ks_zret rfl rfl dX16_never_72 ?_
          rw [show badO op = true from decide_eq_true (by omega)]
          exact ⟨rfl, rfl⟩
        · refine ks_iload_n dX16_never_34 rfl rfl ?_
          refine ks_sipush (x := nI 142) dX16_never_35 (by decide) rfl ?_
          refine ks_icmp_eqN (tgt := 67) (by omega) (by decide) dX16_never_38 (by decide) rfl (fun hc38 => ?_) (fun hc38 => ?_)
          · refine ks_iconst (x := nI 1) dX16_never_67 (by decide) rfl ?_
            refine ks_goto (tgt := 72) dX16_never_68 (by decide) ?_
            refine ks_zret rfl rfl dX16_never_72 ?_
            rw [show badO op = true from decide_eq_true (by omega)]
            exact ⟨rfl, rfl⟩
          · refine ks_iload_n dX16_never_41 rfl rfl ?_
            refine ks_sipush (x := nI 149) dX16_never_42 (by decide) rfl ?_
            refine ks_icmp_ltN (tgt := 55) (by omega) (by decide) dX16_never_45 (by decide) rfl (fun hc45 => ?_) (fun hc45 => ?_)
            · refine ks_iload_n dX16_never_55 rfl rfl ?_
              refine ks_bipush (x := nI 101) dX16_never_56 (by decide) rfl ?_
              refine ks_icmp_eqN (tgt := 67) (by omega) (by decide) dX16_never_58 (by decide) rfl (fun hc58 => ?_) (fun hc58 => ?_)
              · refine ks_iconst (x := nI 1) dX16_never_67 (by decide) rfl ?_
                refine ks_goto (tgt := 72) dX16_never_68 (by decide) ?_
                refine ks_zret rfl rfl dX16_never_72 ?_
                rw [show badO op = true from decide_eq_true (by omega)]
                exact ⟨rfl, rfl⟩
              · refine ks_iload_n dX16_never_61 rfl rfl ?_
                refine ks_bipush (x := nI 102) dX16_never_62 (by decide) rfl ?_
                refine ks_icmp_neN (tgt := 71) (by omega) (by decide) dX16_never_64 (by decide) rfl (fun hc64 => ?_) (fun hc64 => ?_)
                · refine ks_iconst (x := nI 0) dX16_never_71 (by decide) rfl ?_
                  refine ks_zret rfl rfl dX16_never_72 ?_
                  rw [show badO op = false from decide_eq_false (by omega)]
                  exact ⟨rfl, rfl⟩
                · refine ks_iconst (x := nI 1) dX16_never_67 (by decide) rfl ?_
                  refine ks_goto (tgt := 72) dX16_never_68 (by decide) ?_
                  refine ks_zret rfl rfl dX16_never_72 ?_
                  rw [show badO op = true from decide_eq_true (by omega)]
                  exact ⟨rfl, rfl⟩
            · refine ks_iload_n dX16_never_48 rfl rfl ?_
              refine ks_sipush (x := nI 153) dX16_never_49 (by decide) rfl ?_
              refine ks_icmp_leN (tgt := 67) (by omega) (by decide) dX16_never_52 (by decide) rfl (fun hc52 => ?_) (fun hc52 => ?_)
              · refine ks_iconst (x := nI 1) dX16_never_67 (by decide) rfl ?_
                refine ks_goto (tgt := 72) dX16_never_68 (by decide) ?_
                refine ks_zret rfl rfl dX16_never_72 ?_
                rw [show badO op = true from decide_eq_true (by omega)]
                exact ⟨rfl, rfl⟩
              · refine ks_iload_n dX16_never_55 rfl rfl ?_
                refine ks_bipush (x := nI 101) dX16_never_56 (by decide) rfl ?_
                refine ks_icmp_eqN (tgt := 67) (by omega) (by decide) dX16_never_58 (by decide) rfl (fun hc58 => ?_) (fun hc58 => ?_)
                · refine ks_iconst (x := nI 1) dX16_never_67 (by decide) rfl ?_
                  refine ks_goto (tgt := 72) dX16_never_68 (by decide) ?_
                  refine ks_zret rfl rfl dX16_never_72 ?_
                  rw [show badO op = true from decide_eq_true (by omega)]
                  exact ⟨rfl, rfl⟩
                · refine ks_iload_n dX16_never_61 rfl rfl ?_
                  refine ks_bipush (x := nI 102) dX16_never_62 (by decide) rfl ?_
                  refine ks_icmp_neN (tgt := 71) (by omega) (by decide) dX16_never_64 (by decide) rfl (fun hc64 => ?_) (fun hc64 => ?_)
                  · refine ks_iconst (x := nI 0) dX16_never_71 (by decide) rfl ?_
                    refine ks_zret rfl rfl dX16_never_72 ?_
                    rw [show badO op = false from decide_eq_false (by omega)]
                    exact ⟨rfl, rfl⟩
                  · refine ks_iconst (x := nI 1) dX16_never_67 (by decide) rfl ?_
                    refine ks_goto (tgt := 72) dX16_never_68 (by decide) ?_
                    refine ks_zret rfl rfl dX16_never_72 ?_
                    rw [show badO op = true from decide_eq_true (by omega)]
                    exact ⟨rfl, rfl⟩
  · refine ks_iload_n dX16_never_6 rfl rfl ?_
    refine ks_sipush (x := nI 129) dX16_never_7 (by decide) rfl ?_
    refine ks_icmp_leN (tgt := 67) (by omega) (by decide) dX16_never_10 (by decide) rfl (fun hc10 => ?_) (fun hc10 => ?_)
    · refine ks_iconst (x := nI 1) dX16_never_67 (by decide) rfl ?_
      refine ks_goto (tgt := 72) dX16_never_68 (by decide) ?_
      refine ks_zret rfl rfl dX16_never_72 ?_
      rw [show badO op = true from decide_eq_true (by omega)]
      exact ⟨rfl, rfl⟩
    · refine ks_iload_n dX16_never_13 rfl rfl ?_
      refine ks_sipush (x := nI 131) dX16_never_14 (by decide) rfl ?_
      refine ks_icmp_ltN (tgt := 27) (by omega) (by decide) dX16_never_17 (by decide) rfl (fun hc17 => ?_) (fun hc17 => ?_)
      · refine ks_iload_n dX16_never_27 rfl rfl ?_
        refine ks_sipush (x := nI 141) dX16_never_28 (by decide) rfl ?_
        refine ks_icmp_eqN (tgt := 67) (by omega) (by decide) dX16_never_31 (by decide) rfl (fun hc31 => ?_) (fun hc31 => ?_)
        · refine ks_iconst (x := nI 1) dX16_never_67 (by decide) rfl ?_
          refine ks_goto (tgt := 72) dX16_never_68 (by decide) ?_
          refine ks_zret rfl rfl dX16_never_72 ?_
          rw [show badO op = true from decide_eq_true (by omega)]
          exact ⟨rfl, rfl⟩
        · refine ks_iload_n dX16_never_34 rfl rfl ?_
          refine ks_sipush (x := nI 142) dX16_never_35 (by decide) rfl ?_
          refine ks_icmp_eqN (tgt := 67) (by omega) (by decide) dX16_never_38 (by decide) rfl (fun hc38 => ?_) (fun hc38 => ?_)
          · refine ks_iconst (x := nI 1) dX16_never_67 (by decide) rfl ?_
            refine ks_goto (tgt := 72) dX16_never_68 (by decide) ?_
            refine ks_zret rfl rfl dX16_never_72 ?_
            rw [show badO op = true from decide_eq_true (by omega)]
            exact ⟨rfl, rfl⟩
          · refine ks_iload_n dX16_never_41 rfl rfl ?_
            refine ks_sipush (x := nI 149) dX16_never_42 (by decide) rfl ?_
            refine ks_icmp_ltN (tgt := 55) (by omega) (by decide) dX16_never_45 (by decide) rfl (fun hc45 => ?_) (fun hc45 => ?_)
            · refine ks_iload_n dX16_never_55 rfl rfl ?_
              refine ks_bipush (x := nI 101) dX16_never_56 (by decide) rfl ?_
              refine ks_icmp_eqN (tgt := 67) (by omega) (by decide) dX16_never_58 (by decide) rfl (fun hc58 => ?_) (fun hc58 => ?_)
              · refine ks_iconst (x := nI 1) dX16_never_67 (by decide) rfl ?_
                refine ks_goto (tgt := 72) dX16_never_68 (by decide) ?_
                refine ks_zret rfl rfl dX16_never_72 ?_
                rw [show badO op = true from decide_eq_true (by omega)]
                exact ⟨rfl, rfl⟩
              · refine ks_iload_n dX16_never_61 rfl rfl ?_
                refine ks_bipush (x := nI 102) dX16_never_62 (by decide) rfl ?_
                refine ks_icmp_neN (tgt := 71) (by omega) (by decide) dX16_never_64 (by decide) rfl (fun hc64 => ?_) (fun hc64 => ?_)
                · refine ks_iconst (x := nI 0) dX16_never_71 (by decide) rfl ?_
                  refine ks_zret rfl rfl dX16_never_72 ?_
                  rw [show badO op = false from decide_eq_false (by omega)]
                  exact ⟨rfl, rfl⟩
                · refine ks_iconst (x := nI 1) dX16_never_67 (by decide) rfl ?_
                  refine ks_goto (tgt := 72) dX16_never_68 (by decide) ?_
                  refine ks_zret rfl rfl dX16_never_72 ?_
                  rw [show badO op = true from decide_eq_true (by omega)]
                  exact ⟨rfl, rfl⟩
            · refine ks_iload_n dX16_never_48 rfl rfl ?_
              refine ks_sipush (x := nI 153) dX16_never_49 (by decide) rfl ?_
              refine ks_icmp_leN (tgt := 67) (by omega) (by decide) dX16_never_52 (by decide) rfl (fun hc52 => ?_) (fun hc52 => ?_)
              · refine ks_iconst (x := nI 1) dX16_never_67 (by decide) rfl ?_
                refine ks_goto (tgt := 72) dX16_never_68 (by decide) ?_
                refine ks_zret rfl rfl dX16_never_72 ?_
                rw [show badO op = true from decide_eq_true (by omega)]
                exact ⟨rfl, rfl⟩
              · refine ks_iload_n dX16_never_55 rfl rfl ?_
                refine ks_bipush (x := nI 101) dX16_never_56 (by decide) rfl ?_
                refine ks_icmp_eqN (tgt := 67) (by omega) (by decide) dX16_never_58 (by decide) rfl (fun hc58 => ?_) (fun hc58 => ?_)
                · refine ks_iconst (x := nI 1) dX16_never_67 (by decide) rfl ?_
                  refine ks_goto (tgt := 72) dX16_never_68 (by decide) ?_
                  refine ks_zret rfl rfl dX16_never_72 ?_
                  rw [show badO op = true from decide_eq_true (by omega)]
                  exact ⟨rfl, rfl⟩
                · refine ks_iload_n dX16_never_61 rfl rfl ?_
                  refine ks_bipush (x := nI 102) dX16_never_62 (by decide) rfl ?_
                  refine ks_icmp_neN (tgt := 71) (by omega) (by decide) dX16_never_64 (by decide) rfl (fun hc64 => ?_) (fun hc64 => ?_)
                  · refine ks_iconst (x := nI 0) dX16_never_71 (by decide) rfl ?_
                    refine ks_zret rfl rfl dX16_never_72 ?_
                    rw [show badO op = false from decide_eq_false (by omega)]
                    exact ⟨rfl, rfl⟩
                  · refine ks_iconst (x := nI 1) dX16_never_67 (by decide) rfl ?_
                    refine ks_goto (tgt := 72) dX16_never_68 (by decide) ?_
                    refine ks_zret rfl rfl dX16_never_72 ?_
                    rw [show badO op = true from decide_eq_true (by omega)]
                    exact ⟨rfl, rfl⟩
      · refine ks_iload_n dX16_never_20 rfl rfl ?_
        refine ks_sipush (x := nI 134) dX16_never_21 (by decide) rfl ?_
        refine ks_icmp_leN (tgt := 67) (by omega) (by decide) dX16_never_24 (by decide) rfl (fun hc24 => ?_) (fun hc24 => ?_)
        · refine ks_iconst (x := nI 1) dX16_never_67 (by decide) rfl ?_
          refine ks_goto (tgt := 72) dX16_never_68 (by decide) ?_
          refine ks_zret rfl rfl dX16_never_72 ?_
          rw [show badO op = true from decide_eq_true (by omega)]
          exact ⟨rfl, rfl⟩
        · refine ks_iload_n dX16_never_27 rfl rfl ?_
          refine ks_sipush (x := nI 141) dX16_never_28 (by decide) rfl ?_
          refine ks_icmp_eqN (tgt := 67) (by omega) (by decide) dX16_never_31 (by decide) rfl (fun hc31 => ?_) (fun hc31 => ?_)
          · refine ks_iconst (x := nI 1) dX16_never_67 (by decide) rfl ?_
            refine ks_goto (tgt := 72) dX16_never_68 (by decide) ?_
            refine ks_zret rfl rfl dX16_never_72 ?_
            rw [show badO op = true from decide_eq_true (by omega)]
            exact ⟨rfl, rfl⟩
          · refine ks_iload_n dX16_never_34 rfl rfl ?_
            refine ks_sipush (x := nI 142) dX16_never_35 (by decide) rfl ?_
            refine ks_icmp_eqN (tgt := 67) (by omega) (by decide) dX16_never_38 (by decide) rfl (fun hc38 => ?_) (fun hc38 => ?_)
            · refine ks_iconst (x := nI 1) dX16_never_67 (by decide) rfl ?_
              refine ks_goto (tgt := 72) dX16_never_68 (by decide) ?_
              refine ks_zret rfl rfl dX16_never_72 ?_
              rw [show badO op = true from decide_eq_true (by omega)]
              exact ⟨rfl, rfl⟩
            · refine ks_iload_n dX16_never_41 rfl rfl ?_
              refine ks_sipush (x := nI 149) dX16_never_42 (by decide) rfl ?_
              refine ks_icmp_ltN (tgt := 55) (by omega) (by decide) dX16_never_45 (by decide) rfl (fun hc45 => ?_) (fun hc45 => ?_)
              · refine ks_iload_n dX16_never_55 rfl rfl ?_
                refine ks_bipush (x := nI 101) dX16_never_56 (by decide) rfl ?_
                refine ks_icmp_eqN (tgt := 67) (by omega) (by decide) dX16_never_58 (by decide) rfl (fun hc58 => ?_) (fun hc58 => ?_)
                · refine ks_iconst (x := nI 1) dX16_never_67 (by decide) rfl ?_
                  refine ks_goto (tgt := 72) dX16_never_68 (by decide) ?_
                  refine ks_zret rfl rfl dX16_never_72 ?_
                  rw [show badO op = true from decide_eq_true (by omega)]
                  exact ⟨rfl, rfl⟩
                · refine ks_iload_n dX16_never_61 rfl rfl ?_
                  refine ks_bipush (x := nI 102) dX16_never_62 (by decide) rfl ?_
                  refine ks_icmp_neN (tgt := 71) (by omega) (by decide) dX16_never_64 (by decide) rfl (fun hc64 => ?_) (fun hc64 => ?_)
                  · refine ks_iconst (x := nI 0) dX16_never_71 (by decide) rfl ?_
                    refine ks_zret rfl rfl dX16_never_72 ?_
                    rw [show badO op = false from decide_eq_false (by omega)]
                    exact ⟨rfl, rfl⟩
                  · refine ks_iconst (x := nI 1) dX16_never_67 (by decide) rfl ?_
                    refine ks_goto (tgt := 72) dX16_never_68 (by decide) ?_
                    refine ks_zret rfl rfl dX16_never_72 ?_
                    rw [show badO op = true from decide_eq_true (by omega)]
                    exact ⟨rfl, rfl⟩
              · refine ks_iload_n dX16_never_48 rfl rfl ?_
                refine ks_sipush (x := nI 153) dX16_never_49 (by decide) rfl ?_
                refine ks_icmp_leN (tgt := 67) (by omega) (by decide) dX16_never_52 (by decide) rfl (fun hc52 => ?_) (fun hc52 => ?_)
                · refine ks_iconst (x := nI 1) dX16_never_67 (by decide) rfl ?_
                  refine ks_goto (tgt := 72) dX16_never_68 (by decide) ?_
                  refine ks_zret rfl rfl dX16_never_72 ?_
                  rw [show badO op = true from decide_eq_true (by omega)]
                  exact ⟨rfl, rfl⟩
                · refine ks_iload_n dX16_never_55 rfl rfl ?_
                  refine ks_bipush (x := nI 101) dX16_never_56 (by decide) rfl ?_
                  refine ks_icmp_eqN (tgt := 67) (by omega) (by decide) dX16_never_58 (by decide) rfl (fun hc58 => ?_) (fun hc58 => ?_)
                  · refine ks_iconst (x := nI 1) dX16_never_67 (by decide) rfl ?_
                    refine ks_goto (tgt := 72) dX16_never_68 (by decide) ?_
                    refine ks_zret rfl rfl dX16_never_72 ?_
                    rw [show badO op = true from decide_eq_true (by omega)]
                    exact ⟨rfl, rfl⟩
                  · refine ks_iload_n dX16_never_61 rfl rfl ?_
                    refine ks_bipush (x := nI 102) dX16_never_62 (by decide) rfl ?_
                    refine ks_icmp_neN (tgt := 71) (by omega) (by decide) dX16_never_64 (by decide) rfl (fun hc64 => ?_) (fun hc64 => ?_)
                    · refine ks_iconst (x := nI 0) dX16_never_71 (by decide) rfl ?_
                      refine ks_zret rfl rfl dX16_never_72 ?_
                      rw [show badO op = false from decide_eq_false (by omega)]
                      exact ⟨rfl, rfl⟩
                    · refine ks_iconst (x := nI 1) dX16_never_67 (by decide) rfl ?_
                      refine ks_goto (tgt := 72) dX16_never_68 (by decide) ?_
                      refine ks_zret rfl rfl dX16_never_72 ?_
                      rw [show badO op = true from decide_eq_true (by omega)]
                      exact ⟨rfl, rfl⟩
set_option maxRecDepth 100000 in
set_option maxHeartbeats 800000 in
theorem c_rs_copy {l : Launch} {G : ks_G} {d : Nat} {S : ks_S} {V : Nat → Value} {F : Nat} {xs ys : List (List Nat)} {vs : Vs} (hO : S.2.2 290 = some (rfE V)) (hK : rsQ S V F xs ys vs) {k : Nat} (hk : k < xs.length) : ks_P l G yX16_copy mX16_copy (d + 2) [.ref 290, .int (nI k)] S (fun z S' => z = none ∧ stK S S' V F (xs.length ≤ 1000) xs (cpS k xs) ys vs) := by
  obtain ⟨T, sz, oz, vz, hK', rfl, gS, kS, h367⟩ := hK
  have hK := hK'
  obtain ⟨hT, ⟨h362, h364, h366⟩, ⟨v67, v70, v73⟩, ⟨bx, by9, bv⟩, hx, hys, hvs, hU⟩ := id hK
  obtain ⟨r, g, a1, a2, a3, a4, a5⟩ := hx (xs.length - 1 - k) (by omega)
  rw [show xs.length - 1 - (xs.length - 1 - k) = k by omega] at a5
  refine ks_of (by decide) rfl rfl (Nat.le_of_ble_eq_true rfl) ?_
  show ks_X l G mX16_copy (d + 2) 0 [(0, .ref 290), (1, .int (nI k))] [] S _
  refine ks_aload_n dX16_copy_0 rfl rfl ?_
  refine ks_getf (T := TX16) (kf := 67) kx_2435 rfl in_X16 cl_X16 (by decide) hO rfl dX16_copy_1 rfl ?_
  refine ks_tv v67 ?_
  refine ks_iconst (x := nI 1) dX16_copy_4 (by decide) rfl ?_
  refine ks_subN (by omega) dX16_copy_5 rfl ?_
  refine ks_iload_n dX16_copy_6 rfl rfl ?_
  refine ks_subN (by omega) dX16_copy_7 rfl ?_
  refine ks_istore_n dX16_copy_8 (by decide) rfl ?_
  refine ks_sub [(2, _), (0, _), (1, _)] rfl ?_
  refine ks_aload_n dX16_copy_9 rfl rfl ?_
  refine ks_aload_n dX16_copy_10 rfl rfl ?_
  refine ks_getf (T := TX16) (kf := 65) kx_2433 rfl in_X16 cl_X16 (by decide) hO rfl dX16_copy_11 rfl ?_
  refine ks_iload_n dX16_copy_14 rfl rfl ?_
  refine ks_aaldN (i := xs.length - 1 - k) (b := r) (by decide) (hT.1 0 (by decide)) rfl (by omega) (by decide) a1 dX16_copy_15 rfl ?_
  refine ks_iconst (x := nI 0) dX16_copy_16 (by decide) rfl ?_
  refine ks_aload_n dX16_copy_17 rfl rfl ?_
  refine ks_getf (T := TX16) (kf := 66) kx_2434 rfl in_X16 cl_X16 (by decide) hO rfl dX16_copy_18 rfl ?_
  refine ks_iload_n dX16_copy_21 rfl rfl ?_
  refine ks_ialdN (i := xs.length - 1 - k) h362 rfl (by omega) (by decide) dX16_copy_22 rfl ?_
  refine ks_callV (n := 3) (M' := mX16_push) (c_rs_push (d := d) hO hK (y := r) (at_ := 0) (n := sz (xs.length - 1 - k)) a2 a3 (by omega) (by decide) (fun h => by have := hT.2.1 _ _ _ _ _ a1 h; omega)) hO cl_X16 rfl kx_2177 kx_2179 kxp_90 kx_30 kx_2180 (by decide +kernel) rfl (by decide) (Nat.le_of_ble_eq_true rfl) rfl dX16_copy_23 rfl (fun z1 S1 y1 => ?_)
  obtain ⟨rfl, T1, sz1, V1, sf, o1, hv, hc⟩ := y1
  refine ks_ret rfl dX16_copy_26 ?_
  refine ⟨rfl, V1, frT T1, ⟨sf.mono (by decide), o1, fun k h1 _ h3 => hv k h1 h3⟩, ?_⟩
  rcases hc with ⟨-, c1, c2, -, c3⟩ | ⟨c1, c2, rfl, c3⟩
  · refine Or.inl ⟨c1, c2, T1, sz1, oz, vz, ?_, rfl, gS, kS, sf.2 367 _ h367 (by decide) (fun g h => absurd (kB_lq h) (by decide))⟩
    unfold cpS
    rw [a5]
    exact c3
  · exact Or.inr ⟨by omega, c2, T1, sz, oz, vz, c3, rfl, gS, kS, sf.2 367 _ h367 (by decide) (fun g h => absurd (kB_lq h) (by decide))⟩
set_option maxRecDepth 100000 in
set_option maxHeartbeats 800000 in
theorem c_rs_isTrue {l : Launch} {G : ks_G} {d : Nat} {S : ks_S} {V : Nat → Value} {F : Nat} {xs ys : List (List Nat)} {vs : Vs} (hO : S.2.2 290 = some (rfE V)) (hK : rsQ S V F xs ys vs) {k : Nat} (hk : k < xs.length) : ks_P l G yX16_isTrue mX16_isTrue d [.ref 290, .int (nI k)] S (fun z S' => z = some (.int (ks_bo (isTr (xs.getD k [])))) ∧ S' = S) := by
  obtain ⟨T, sz, oz, vz, hK', rfl, gS, kS, h367⟩ := hK
  have hK := hK'
  obtain ⟨hT, ⟨h362, h364, h366⟩, ⟨v67, v70, v73⟩, ⟨bx, by9, bv⟩, hx, hys, hvs, hU⟩ := id hK
  obtain ⟨r, g, a1, a2, a3, a4, a5⟩ := hx (xs.length - 1 - k) (by omega)
  rw [show xs.length - 1 - (xs.length - 1 - k) = k by omega] at a5
  rw [a5]
  have hg : ∀ j, j < sz (xs.length - 1 - k) → (bytL g 0 (sz (xs.length - 1 - k))).getD j 0 = g j := fun j hj => by rw [bytL_at _ _ _ hj, Nat.zero_add]
  have hl : (bytL g 0 (sz (xs.length - 1 - k))).length = sz (xs.length - 1 - k) := bytL_len _ _ _
  obtain ⟨i, ei⟩ : ∃ i, i = xs.length - 1 - k := ⟨_, rfl⟩
  rw [← ei] at a1 a4 hg hl ⊢
  have loop : ∀ (u x : Nat), x + u = sz i → (∀ j, j < x → g j = 0) → ks_X l G mX16_isTrue d 11 [(0, .ref 290), (1, .int (nI k)), (2, .int (nI i)), (3, .int (nI x))] [] S (fun z S' => z = some (.int (ks_bo (isTr (bytL g 0 (sz i))))) ∧ S' = S) := by
    intro u
    induction u with
    | zero =>
      intro x hx9 hz
      refine ks_iload_n dX16_isTrue_11 rfl rfl ?_
      refine ks_aload_n dX16_isTrue_12 rfl rfl ?_
      refine ks_getf (T := TX16) (kf := 66) kx_2434 rfl in_X16 cl_X16 (by decide) hO rfl dX16_isTrue_13 rfl ?_
      refine ks_iload_n dX16_isTrue_16 rfl rfl ?_
      refine ks_ialdN (i := i) h362 rfl (by omega) (by decide) dX16_isTrue_17 rfl ?_
      refine ks_icmp_geN (tgt := 69) (by omega) (by omega) dX16_isTrue_18 (by decide) rfl (fun h1 => ?_) (fun h1 => absurd h1 (by omega))
      refine ks_iconst (x := nI 0) dX16_isTrue_69 (by decide) rfl ?_
      refine ks_zret rfl rfl dX16_isTrue_70 ?_
      rw [show isTr (bytL g 0 (sz i)) = false from decide_eq_false (fun ⟨j, h2, h3, _⟩ => h3 (by rw [hl] at h2; rw [hg j h2]; exact hz j (by omega)))]
      exact ⟨rfl, rfl⟩
    | succ u ih =>
      intro x hx9 hz
      refine ks_iload_n dX16_isTrue_11 rfl rfl ?_
      refine ks_aload_n dX16_isTrue_12 rfl rfl ?_
      refine ks_getf (T := TX16) (kf := 66) kx_2434 rfl in_X16 cl_X16 (by decide) hO rfl dX16_isTrue_13 rfl ?_
      refine ks_iload_n dX16_isTrue_16 rfl rfl ?_
      refine ks_ialdN (i := i) h362 rfl (by omega) (by decide) dX16_isTrue_17 rfl ?_
      refine ks_icmp_geN (tgt := 69) (by omega) (by omega) dX16_isTrue_18 (by decide) rfl (fun h1 => absurd h1 (by omega)) (fun h1 => ?_)
      refine ks_aload_n dX16_isTrue_21 rfl rfl ?_
      refine ks_getf (T := TX16) (kf := 65) kx_2433 rfl in_X16 cl_X16 (by decide) hO rfl dX16_isTrue_22 rfl ?_
      refine ks_iload_n dX16_isTrue_25 rfl rfl ?_
      refine ks_aaldN (i := i) (b := r) (by decide) (hT.1 0 (by decide)) rfl (by omega) (by decide) a1 dX16_isTrue_26 rfl ?_
      refine ks_iload_n dX16_isTrue_27 rfl rfl ?_
      refine ks_baldB (i := x) a2 rfl (by omega) (by decide) dX16_isTrue_28 rfl ?_
      refine ks_if_eqY (tgt := 63) (a3 _) dX16_isTrue_29 (by decide) rfl (fun h2 => ?_) (fun h2 => ?_)
      · refine ks_incN (c := 1) (e := x + 1) dX16_isTrue_63 rfl (by decide) rfl (by decide) rfl ?_
        refine ks_sub [(3, _), (0, _), (1, _), (2, _)] rfl ?_
        refine ks_goto (tgt := 11) dX16_isTrue_66 (by decide) ?_
        refine ks_sub [(0, _), (1, _), (2, _), (3, _)] rfl (ih (x + 1) (by omega) (fun j hj => ?_))
        by_cases e : j = x
        · subst e; exact h2
        · exact hz j (by omega)
      · refine ks_iload_n dX16_isTrue_32 rfl rfl ?_
        refine ks_aload_n dX16_isTrue_33 rfl rfl ?_
        refine ks_getf (T := TX16) (kf := 66) kx_2434 rfl in_X16 cl_X16 (by decide) hO rfl dX16_isTrue_34 rfl ?_
        refine ks_iload_n dX16_isTrue_37 rfl rfl ?_
        refine ks_ialdN (i := i) h362 rfl (by omega) (by decide) dX16_isTrue_38 rfl ?_
        refine ks_iconst (x := nI 1) dX16_isTrue_39 (by decide) rfl ?_
        refine ks_subN (by omega) dX16_isTrue_40 rfl ?_
        refine ks_icmp_ltN (tgt := 57) (by omega) (by omega) dX16_isTrue_41 (by decide) rfl (fun h3 => ?_) (fun h3 => ?_)
        · refine ks_iconst (x := nI 1) dX16_isTrue_57 (by decide) rfl ?_
          refine ks_goto (tgt := 62) dX16_isTrue_58 (by decide) ?_
          refine ks_zret rfl rfl dX16_isTrue_62 ?_
          rw [show isTr (bytL g 0 (sz i)) = true from decide_eq_true ⟨x, by rw [hl]; omega, by rw [hg x (by omega)]; exact h2, by rw [hl, hg x (by omega)]; omega⟩]
          exact ⟨rfl, rfl⟩
        · refine ks_aload_n dX16_isTrue_44 rfl rfl ?_
          refine ks_getf (T := TX16) (kf := 65) kx_2433 rfl in_X16 cl_X16 (by decide) hO rfl dX16_isTrue_45 rfl ?_
          refine ks_iload_n dX16_isTrue_48 rfl rfl ?_
          refine ks_aaldN (i := i) (b := r) (by decide) (hT.1 0 (by decide)) rfl (by omega) (by decide) a1 dX16_isTrue_49 rfl ?_
          refine ks_iload_n dX16_isTrue_50 rfl rfl ?_
          refine ks_baldB (i := x) a2 rfl (by omega) (by decide) dX16_isTrue_51 rfl ?_
          refine ks_bipush (x := (-128)) dX16_isTrue_52 (by decide) rfl ?_
          refine ks_icmp_eqYM (tgt := 61) (a3 _) 128 (by decide) (by decide) dX16_isTrue_54 (by decide) rfl (fun h4 => ?_) (fun h4 => ?_)
          · refine ks_iconst (x := nI 0) dX16_isTrue_61 (by decide) rfl ?_
            refine ks_zret rfl rfl dX16_isTrue_62 ?_
            rw [show isTr (bytL g 0 (sz i)) = false from decide_eq_false (fun ⟨j, h5, h6, h7⟩ => by
              rw [hl] at h5 h7
              rw [hg j h5] at h6 h7
              have : x ≤ j := by
                by_cases c : j < x
                · exact absurd (hz j c) h6
                · omega
              obtain rfl : j = x := by omega
              omega)]
            exact ⟨rfl, rfl⟩
          · refine ks_iconst (x := nI 1) dX16_isTrue_57 (by decide) rfl ?_
            refine ks_goto (tgt := 62) dX16_isTrue_58 (by decide) ?_
            refine ks_zret rfl rfl dX16_isTrue_62 ?_
            rw [show isTr (bytL g 0 (sz i)) = true from decide_eq_true ⟨x, by rw [hl]; omega, by rw [hg x (by omega)]; exact h2, by rw [hl, hg x (by omega)]; omega⟩]
            exact ⟨rfl, rfl⟩
  refine ks_of (by decide) rfl rfl (Nat.le_of_ble_eq_true rfl) ?_
  show ks_X l G mX16_isTrue d 0 [(0, .ref 290), (1, .int (nI k))] [] S _
  refine ks_aload_n dX16_isTrue_0 rfl rfl ?_
  refine ks_getf (T := TX16) (kf := 67) kx_2435 rfl in_X16 cl_X16 (by decide) hO rfl dX16_isTrue_1 rfl ?_
  refine ks_tv v67 ?_
  refine ks_iconst (x := nI 1) dX16_isTrue_4 (by decide) rfl ?_
  refine ks_subN (by omega) dX16_isTrue_5 rfl ?_
  refine ks_iload_n dX16_isTrue_6 rfl rfl ?_
  refine ks_subN (by omega) dX16_isTrue_7 rfl ?_
  rw [← ei]
  refine ks_istore_n dX16_isTrue_8 (by decide) rfl ?_
  refine ks_sub [(2, _), (0, _), (1, _)] rfl ?_
  refine ks_iconst (x := nI 0) dX16_isTrue_9 (by decide) rfl ?_
  refine ks_istore_n dX16_isTrue_10 (by decide) rfl ?_
  refine ks_sub [(3, _), (0, _), (1, _), (2, _)] rfl ?_
  exact ks_sub [(0, _), (1, _), (2, _), (3, _)] rfl (loop (sz i) 0 (by omega) (fun j h => absurd h (Nat.not_lt_zero _)))
