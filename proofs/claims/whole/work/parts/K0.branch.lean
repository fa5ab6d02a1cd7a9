/-! THE REFERENCE: answer, branch -/
theorem rsQ.v67 {S : ks_S} {V : Nat → Value} {F : Nat} {xs ys : List (List Nat)} {vs : Vs} (h : rsQ S V F xs ys vs) : V 67 = .int (nI xs.length) ∧ V 70 = .int (nI ys.length) ∧ V 73 = .int (nI vs.2.length) ∧ xs.length ≤ 1001 ∧ ys.length ≤ 1001 ∧ vs.2.length ≤ 1001 := by
  obtain ⟨_, _, _, _, h9, _⟩ := h
  exact ⟨h9.2.2.1.1, h9.2.2.1.2.1, h9.2.2.1.2.2, h9.2.2.2.1.1, h9.2.2.2.1.2.1, h9.2.2.2.1.2.2⟩
/-- a write to the object that leaves the counts -/
theorem rsQ.obj {S : ks_S} {V V1 V' : Nat → Value} {F : Nat} {xs ys : List (List Nat)} {vs : Vs} (h : rsQ S V F xs ys vs) (hO : S.2.2 290 = some (rfE V1)) (hv : V' 67 = V 67 ∧ V' 70 = V 70 ∧ V' 73 = V 73) : rsQ (ks_set S 290 (rfE V')) V' F xs ys vs := by
  obtain ⟨T, sz, oz, vz, hK, hF, gS, kS, h367⟩ := h
  exact ⟨T, sz, oz, vz, hK.obj hO hv, hF, gS, kS, (ks_set_ne _ _ (by decide)).trans h367⟩
theorem rsQ.up {S S1 : ks_S} {V : Nat → Value} {F : Nat} {xs ys : List (List Nat)} {vs : Vs} {L : List Nat} (h : rsQ S V F xs ys vs) (hu : ks_up S S1 L) (hL : ∀ x ∈ L, x < 361 ∨ 367 < x) (h2 : ∀ x ∈ L, ∃ e, S.2.2 x = some e ∧ ∀ g, e ≠ kB 520 g) : rsQ S1 V F xs ys vs := by
  obtain ⟨T, sz, oz, vz, hK, hF, gS, kS, h367⟩ := h
  exact ⟨T, sz, oz, vz, hK.up hu (fun x hx => by have := hL x hx; omega) h2, hF, gS, kS, hu.at h367 (fun hm => by have := hL _ hm; omega)⟩
theorem rsQ.val {S : ks_S} {V V' : Nat → Value} {F : Nat} {xs ys : List (List Nat)} {vs : Vs} (h : rsQ S V F xs ys vs) (hv : V' 67 = V 67 ∧ V' 70 = V 70 ∧ V' 73 = V 73) : rsQ S V' F xs ys vs := by
  obtain ⟨T, sz, oz, vz, ⟨h1, h2, ⟨v1, v2, v3⟩, h4⟩, hF, h5⟩ := h
  exact ⟨T, sz, oz, vz, ⟨h1, h2, ⟨hv.1.trans v1, hv.2.1.trans v2, hv.2.2.trans v3⟩, h4⟩, hF, h5⟩
set_option maxRecDepth 100000 in
set_option maxHeartbeats 800000 in
theorem c_rs_answer {l : Launch} {G : ks_G} {d : Nat} {S : ks_S} {V : Nat → Value} {F : Nat} {xs ys : List (List Nat)} {vs : Vs} (hO : S.2.2 290 = some (rfE V)) (hK : rsQ S V F xs ys vs) {b v : Bool} (hl : xs.length ≤ 1000) (v74 : V 74 = .int (ks_bo false)) : ks_P l G yX16_answer mX16_answer (d + 4) [.ref 290, .int (ks_bo b), .int (ks_bo v)] S (fun z S' => z = none ∧ opR S S' V F (if v = true then (if b = true then some (xs, ys) else none) else some (flagL b :: xs, ys)) vs) := by
  refine ks_of (by decide) rfl rfl (Nat.le_of_ble_eq_true rfl) ?_
  show ks_X l G mX16_answer (d + 4) 0 [(0, .ref 290), (1, .int (ks_bo b)), (2, .int (ks_bo v))] [] S _
  refine ks_iload_n dX16_answer_0 rfl rfl ?_
  refine ks_if_eqZ (tgt := 25) dX16_answer_1 (by decide) rfl (fun h1 => ?_) (fun h1 => ?_)
  · refine ks_aload_n dX16_answer_25 rfl rfl ?_
    refine ks_iload_n dX16_answer_26 rfl rfl ?_
    refine ks_callV (n := 1) (M' := mX16_pushTruth) (c_rs_pushTruth (d := d) hO hK (b := b)) hO cl_X16 rfl kx_2200 kx_2202 kxp_95 kx_30 kx_2203 (by decide +kernel) rfl (by decide) (Nat.le_of_ble_eq_true rfl) rfl dX16_answer_27 rfl (fun z2 S2 y2 => ?_)
    obtain ⟨rfl, V2, F2, m2, hc⟩ := y2
    rcases hc with ⟨c1, c2, c3⟩ | ⟨c1, c2, c3⟩
    · refine ks_ret rfl dX16_answer_30 ?_
      rw [if_neg (by rw [h1]; decide)]
      exact ⟨rfl, V2, F2, _, ys, m2, c3, Or.inl ⟨c2.trans v74, rfl⟩⟩
    · omega
  · rw [if_pos h1]
    refine ks_aload_n dX16_answer_4 rfl rfl ?_
    refine ks_dup dX16_answer_5 rfl rfl ?_
    refine ks_getf (T := TX16) (kf := 74) kx_2442 rfl in_X16 cl_X16 (by decide) hO rfl dX16_answer_6 rfl ?_
    refine ks_tv v74 ?_
    refine ks_iload_n dX16_answer_9 rfl rfl ?_
    refine ks_if_neZ (tgt := 17) dX16_answer_10 (by decide) rfl (fun h2 => ?_) (fun h2 => ?_)
    · refine ks_iconst (x := nI 0) dX16_answer_17 (by decide) rfl ?_
      refine ks_ior dX16_answer_18 rfl ?_
      refine ks_ti (y := ks_bo false) (by decide) ?_
      refine ks_putf (T := TX16) (kf := 74) kx_2442 rfl in_X16 tyX16_ok nmX16 cl_X16 (by decide) hO (Nat.le_of_ble_eq_true rfl) rfl rfl (ks_bo_z _) rfl dX16_answer_19 rfl ?_
      refine md_put mdp_74 ?_
      refine ks_goto (tgt := 30) dX16_answer_22 (by decide) ?_
      refine ks_ret rfl dX16_answer_30 ?_
      have M2 : msK S (ks_set S 290 (rfE (va_up V 74 (.int (ks_bo false))))) V (va_up V 74 (.int (ks_bo false))) F F := ⟨sfK.of (ks_up_set _ _ (by decide)), ks_set_same _ _ _, fun k _ _ h3 => va_up_ne _ _ h3⟩
      exact ⟨rfl, _, F, xs, ys, M2, hK.obj hO ⟨va_up_ne _ _ (by decide), va_up_ne _ _ (by decide), va_up_ne _ _ (by decide)⟩, Or.inl ⟨va_up_self _ _ _, by rw [if_pos h2]⟩⟩
    · refine ks_iconst (x := nI 1) dX16_answer_13 (by decide) rfl ?_
      refine ks_goto (tgt := 18) dX16_answer_14 (by decide) ?_
      refine ks_ior dX16_answer_18 rfl ?_
      refine ks_ti (y := ks_bo true) (by decide) ?_
      refine ks_putf (T := TX16) (kf := 74) kx_2442 rfl in_X16 tyX16_ok nmX16 cl_X16 (by decide) hO (Nat.le_of_ble_eq_true rfl) rfl rfl (ks_bo_z _) rfl dX16_answer_19 rfl ?_
      refine md_put mdp_74 ?_
      refine ks_goto (tgt := 30) dX16_answer_22 (by decide) ?_
      refine ks_ret rfl dX16_answer_30 ?_
      have M2 : msK S (ks_set S 290 (rfE (va_up V 74 (.int (ks_bo true))))) V (va_up V 74 (.int (ks_bo true))) F F := ⟨sfK.of (ks_up_set _ _ (by decide)), ks_set_same _ _ _, fun k _ _ h3 => va_up_ne _ _ h3⟩
      exact ⟨rfl, _, F, xs, ys, M2, hK.obj hO ⟨va_up_ne _ _ (by decide), va_up_ne _ _ (by decide), va_up_ne _ _ (by decide)⟩, Or.inr ⟨va_up_self _ _ _, fun q hq => by rw [if_neg (by rw [h2]; decide)] at hq; cases hq⟩⟩
/-- the conditions, the innermost first -/
def rcX (S : ks_S) (V : Nat → Value) (cs : List Bool) : Prop := ∃ dn, S.2.2 368 = some (kZ 1601 dn) ∧ V 84 = .int (nI cs.length) ∧ cs = csE dn cs.length ∧ cs.length ≤ 1600
theorem csE_lq (dn : Nat → Bool) : ∀ n, (csE dn n).length = n
  | 0 => rfl
  | n + 1 => by show (csE dn n).length + 1 = n + 1; rw [csE_lq dn n]
theorem csE_c {f g : Nat → Bool} : ∀ {n : Nat}, (∀ i, i < n → f i = g i) → csE f n = csE g n
  | 0, _ => rfl
  | n + 1, h => by
    unfold csE
    rw [csE_c (n := n) (fun i hi => h i (by omega)), h n (by omega)]
abbrev LBc : List Nat := [290, 361, 362, 363, 364, 367, 368]
def bcK (S S' : ks_S) (V V' : Nat → Value) (F F' : Nat) : Prop := sfK LBc S S' F F' ∧ S'.2.2 290 = some (rfE V') ∧ ∀ k, k ≠ 67 → k ≠ 70 → k ≠ 74 → k ≠ 84 → V' k = V k
def brQ (S S' : ks_S) (V : Nat → Value) (F : Nat) (r : Option (List (List Nat) × List Bool)) (ys : List (List Nat)) (vs : Vs) : Prop := ∃ V' F' xs' cs', bcK S S' V V' F F' ∧ rsQ S' V' F' xs' ys vs ∧ rcX S' V' cs' ∧ ((V' 74 = .int (ks_bo false) ∧ r = some (xs', cs')) ∨ (V' 74 = .int (ks_bo true) ∧ r = none))
set_option maxRecDepth 100000 in
set_option maxHeartbeats 800000 in
theorem c_rs_branch {l : Launch} {G : ks_G} {d : Nat} {S : ks_S} {V : Nat → Value} {F : Nat} {xs ys : List (List Nat)} {vs : Vs} (hO : S.2.2 290 = some (rfE V)) (hK : rsQ S V F xs ys vs) {op : Nat} {cs : List Bool} (hop : op = 99 ∨ op = 100 ∨ op = 103 ∨ op = 104) (hC : rcX S V cs) (hc9 : cs.length < 1600) (v74 : V 74 = .int (ks_bo false)) : ks_P l G yX16_branch mX16_branch (d + 1) [.ref 290, .int (nI op), .int (ks_bo (decide (clN cs = 0)))] S (fun z S' => z = none ∧ brQ S S' V F (brS op xs cs) ys vs) := by
  obtain ⟨dn, e368, v84, ecs, hcl⟩ := id hC
  obtain ⟨v67, v70, v73, bx, by9, bv⟩ := hK.v67
  have push : ∀ (S1 : ks_S) (V1 : Nat → Value) (xs1 : List (List Nat)) (b : Bool), sfK LBc S S1 F F → S1.2.2 290 = some (rfE V1) → (∀ k, k ≠ 67 → V1 k = V k) → rsQ S1 V1 F xs1 ys vs → S1.2.2 368 = some (kZ 1601 dn) → brS op xs cs = some (xs1, b :: cs) → ks_X l G mX16_branch (d + 1) 62 [(0, .ref 290), (3, .int (ks_bo b))] [] S1 (fun z S' => z = none ∧ brQ S S' V F (brS op xs cs) ys vs) := by
    intro S1 V1 xs1 b sf o1 hv Q1 h368 er
    have u84 := (hv 84 (by decide)).trans v84
    have hz : S1.2.2 368 = some (kZ 1601 dn) → ks_X l G mX16_branch (d + 1) 62 [(0, .ref 290), (3, .int (ks_bo b))] [] S1 (fun z S' => z = none ∧ brQ S S' V F (brS op xs cs) ys vs) := by
      intro c1
      refine ks_aload_n dX16_branch_62 rfl rfl ?_
      refine ks_getf (T := TX16) (kf := 83) kx_2451 rfl in_X16 cl_X16 (by decide) o1 rfl dX16_branch_63 rfl ?_
      refine ks_aload_n dX16_branch_66 rfl rfl ?_
      refine ks_getf (T := TX16) (kf := 84) kx_2452 rfl in_X16 cl_X16 (by decide) o1 rfl dX16_branch_67 rfl ?_
      refine ks_tv u84 ?_
      refine ks_iload_n dX16_branch_70 rfl rfl ?_
      refine ks_zastN (i := cs.length) (v := b) c1 (by omega) (by decide) dX16_branch_71 rfl ?_
      refine ks_aload_n dX16_branch_72 rfl rfl ?_
      refine ks_dup dX16_branch_73 rfl rfl ?_
      refine ks_getf (T := TX16) (kf := 84) kx_2452 rfl in_X16 cl_X16 (by decide) ((ks_set_ne _ _ (by decide)).trans o1) rfl dX16_branch_74 rfl ?_
      refine ks_tv u84 ?_
      refine ks_iconst (x := nI 1) dX16_branch_77 (by decide) rfl ?_
      refine ks_addN dX16_branch_78 rfl ?_
      refine ks_putf (T := TX16) (kf := 84) kx_2452 rfl in_X16 tyX16_ok nmX16 cl_X16 (by decide) ((ks_set_ne _ _ (by decide)).trans o1) (Nat.le_of_ble_eq_true rfl) rfl rfl rfl rfl dX16_branch_79 rfl ?_
      refine md_put mdp_84 ?_
      refine ks_ret rfl dX16_branch_82 ?_
      have u2 : ks_up S1 (ks_set S1 368 (kZ 1601 (va_up dn cs.length b))) [368] := ks_up_set _ _ (by decide)
      have Q2 := Q1.up u2 (by decide) (fun x hx => by rw [List.mem_singleton] at hx; subst hx; exact ⟨_, c1, fun g h => by cases h⟩)
      refine ⟨rfl, va_up V1 84 (.int (nI (cs.length + 1))), F, xs1, b :: cs, ⟨(sf.trans (sfK.of (u2.mono (by decide)))).trans (sfK.of (ks_up_set _ _ (by decide))), ks_set_same _ _ _, fun k h1 _ _ h4 => (va_up_ne _ _ h4).trans (hv k h1)⟩, Q2.obj (u2.at o1 (by decide)) ⟨va_up_ne _ _ (by decide), va_up_ne _ _ (by decide), va_up_ne _ _ (by decide)⟩, ⟨va_up dn cs.length b, (ks_set_ne _ _ (by decide)).trans (ks_set_same _ _ _), va_up_self _ _ _, ?_, by show cs.length + 1 ≤ 1600; omega⟩, Or.inl ⟨(va_up_ne _ _ (by decide)).trans ((hv 74 (by decide)).trans v74), er⟩⟩
      show b :: cs = va_up dn cs.length b cs.length :: csE (va_up dn cs.length b) cs.length
      rw [va_up_self, csE_c (g := dn) (fun i hi => va_up_ne _ _ (by omega)), ← ecs]
    exact hz h368
  refine ks_of (by decide) rfl rfl (Nat.le_of_ble_eq_true rfl) ?_
  show ks_X l G mX16_branch (d + 1) 0 [(0, .ref 290), (1, .int (nI op)), (2, .int (ks_bo (decide (clN cs = 0))))] [] S _
  refine ks_iload_n dX16_branch_0 rfl rfl ?_
  refine ks_bipush (x := nI 99) dX16_branch_1 (by decide) rfl ?_
  refine ks_icmp_eqN (tgt := 12) (by omega) (by decide) dX16_branch_3 (by decide) rfl (fun h1 => ?_) (fun h1 => ?_)
  · have h99 : op = 99 ∨ op = 100 := Or.inl h1
    refine ks_iconst (x := nI 0) dX16_branch_12 (by decide) rfl ?_
    refine ks_istore_n dX16_branch_13 (by decide) rfl ?_
    refine ks_sub [(3, _), (0, _), (1, _), (2, _)] rfl ?_
    refine ks_iload_n dX16_branch_14 rfl rfl ?_
    refine ks_if_eqZ (tgt := 62) dX16_branch_15 (by decide) rfl (fun h3 => ?_) (fun h3 => ?_)
    · have hn0 : ¬ clN cs = 0 := of_decide_eq_false h3
      exact ks_sub [(0, _), (3, .int (ks_bo false))] rfl (push S V xs false (sfK.rf _ _ _) hO (fun _ _ => rfl) hK e368 (by unfold brS; rw [if_pos h99, if_neg hn0]))
    · have hn0 : clN cs = 0 := of_decide_eq_true h3
      refine ks_aload_n dX16_branch_18 rfl rfl ?_
      refine ks_iconst (x := nI 1) dX16_branch_19 (by decide) rfl ?_
      refine ks_callV (n := 1) (M' := mX16_need) (c_rs_need (d := d) hO hK (n := 1) (by decide)) hO cl_X16 rfl kx_2165 kx_2167 kxp_87 kx_30 kx_2168 (by decide +kernel) rfl (by decide) (Nat.le_of_ble_eq_true rfl) rfl dX16_branch_20 rfl (fun z2 S2 y2 => ?_)
      obtain ⟨rfl, n1, n2⟩ := y2
      refine ks_if_neZ (tgt := 27) dX16_branch_23 (by decide) rfl (fun h4 => ?_) (fun h4 => ?_)
      · have hn := of_decide_eq_true h4
        have e2 := n1 hn
        obtain rfl := e2.symm
        have x0 : ¬ xs = [] := fun h => by rw [h] at hn; exact absurd hn (by decide)
        have tt : topTr xs = isTr (xs.getD 0 []) := by match xs, hn with | a :: r, _ => rfl
        refine ks_aload_n dX16_branch_27 rfl rfl ?_
        refine ks_iconst (x := nI 0) dX16_branch_28 (by decide) rfl ?_
        refine ks_callV (n := 1) (M' := mX16_isTrue) (c_rs_isTrue (d := d) hO hK (k := 0) (by omega)) hO cl_X16 rfl kx_2169 kx_2171 kxp_88 kx_30 kx_2172 (by decide +kernel) rfl (by decide) (Nat.le_of_ble_eq_true rfl) rfl dX16_branch_29 rfl (fun z3 S3 y3 => ?_)
        obtain ⟨rfl, hT3⟩ := y3
        obtain rfl := hT3.symm
        rw [← tt]
        refine ks_iload_n dX16_branch_32 rfl rfl ?_
        refine ks_bipush (x := nI 99) dX16_branch_33 (by decide) rfl ?_
        refine ks_icmp_neN (tgt := 42) (by omega) (by decide) dX16_branch_35 (by decide) rfl (fun h5 => ?_) (fun h5 => ?_)
        · omega
        · refine ks_iconst (x := nI 1) dX16_branch_38 (by decide) rfl ?_
          refine ks_goto (tgt := 43) dX16_branch_39 (by decide) ?_
          refine ks_icmp_neZ (z := (topTr xs)) (w := true) (tgt := 50) dX16_branch_43 (by decide) rfl (fun h6 => ?_) (fun h6 => ?_)
          · refine ks_iconst (x := nI 0) dX16_branch_50 (by decide) rfl ?_
            refine ks_istore_n dX16_branch_51 (by decide) rfl ?_
            refine ks_sub [(3, _), (0, _), (1, _), (2, _)] rfl ?_
            refine ks_aload_n dX16_branch_52 rfl rfl ?_
            refine ks_dup dX16_branch_53 rfl rfl ?_
            refine ks_getf (T := TX16) (kf := 67) kx_2435 rfl in_X16 cl_X16 (by decide) hO rfl dX16_branch_54 rfl ?_
            refine ks_tv v67 ?_
            refine ks_iconst (x := nI 1) dX16_branch_57 (by decide) rfl ?_
            refine ks_subN (by omega) dX16_branch_58 rfl ?_
            refine ks_putf (T := TX16) (kf := 67) kx_2435 rfl in_X16 tyX16_ok nmX16 cl_X16 (by decide) hO (Nat.le_of_ble_eq_true rfl) rfl rfl rfl rfl dX16_branch_59 rfl ?_
            refine md_put mdp_67 ?_
            obtain ⟨Q3, M3⟩ := rsQ.pop (k := 1) hO hK
            exact ks_sub [(0, _), (3, .int (ks_bo false))] rfl (push _ _ (xs.drop 1) false (M3.1.mono (by decide)) (ks_set_same _ _ _) (fun k h => va_up_ne _ _ h) Q3 ((ks_set_ne _ _ (by decide)).trans e368) (by
              unfold brS
              rw [if_pos h99, if_pos hn0, if_neg x0]
              rw [show (topTr xs == decide (op = 99)) = false by rw [decide_eq_true (p := op = 99) (by omega)]; exact beq_eq_false_iff_ne.mpr h6]))
          · refine ks_iconst (x := nI 1) dX16_branch_46 (by decide) rfl ?_
            refine ks_goto (tgt := 51) dX16_branch_47 (by decide) ?_
            refine ks_istore_n dX16_branch_51 (by decide) rfl ?_
            refine ks_sub [(3, _), (0, _), (1, _), (2, _)] rfl ?_
            refine ks_aload_n dX16_branch_52 rfl rfl ?_
            refine ks_dup dX16_branch_53 rfl rfl ?_
            refine ks_getf (T := TX16) (kf := 67) kx_2435 rfl in_X16 cl_X16 (by decide) hO rfl dX16_branch_54 rfl ?_
            refine ks_tv v67 ?_
            refine ks_iconst (x := nI 1) dX16_branch_57 (by decide) rfl ?_
            refine ks_subN (by omega) dX16_branch_58 rfl ?_
            refine ks_putf (T := TX16) (kf := 67) kx_2435 rfl in_X16 tyX16_ok nmX16 cl_X16 (by decide) hO (Nat.le_of_ble_eq_true rfl) rfl rfl rfl rfl dX16_branch_59 rfl ?_
            refine md_put mdp_67 ?_
            obtain ⟨Q3, M3⟩ := rsQ.pop (k := 1) hO hK
            exact ks_sub [(0, _), (3, .int (ks_bo true))] rfl (push _ _ (xs.drop 1) true (M3.1.mono (by decide)) (ks_set_same _ _ _) (fun k h => va_up_ne _ _ h) Q3 ((ks_set_ne _ _ (by decide)).trans e368) (by
              unfold brS
              rw [if_pos h99, if_pos hn0, if_neg x0]
              rw [show (topTr xs == decide (op = 99)) = true by rw [decide_eq_true (p := op = 99) (by omega)]; exact beq_iff_eq.mpr h6]))
      · refine ks_ret rfl dX16_branch_26 ?_
        have hn := of_decide_eq_false h4
        have e2 := n2 hn
        obtain rfl := e2.symm
        obtain ⟨f1, f2⟩ := msK.fail hO hK
        have x0 : xs = [] := List.length_eq_zero_iff.mp (by omega)
        refine ⟨rfl, _, F, xs, cs, ⟨f1.1.mono (by decide), f1.2.1, fun k h1 h2 h3 _ => f1.2.2 k h1 h2 h3⟩, f2, ⟨dn, (ks_set_ne _ _ (by decide)).trans e368, (va_up_ne _ _ (by decide)).trans v84, ecs, hcl⟩, Or.inr ⟨va_up_self _ _ _, ?_⟩⟩
        unfold brS
        rw [if_pos h99, if_pos hn0, if_pos x0]
  · refine ks_iload_n dX16_branch_6 rfl rfl ?_
    refine ks_bipush (x := nI 100) dX16_branch_7 (by decide) rfl ?_
    refine ks_icmp_neN (tgt := 83) (by omega) (by decide) dX16_branch_9 (by decide) rfl (fun h2 => ?_) (fun h2 => ?_)
    · have h99 : ¬ (op = 99 ∨ op = 100) := by omega
      refine ks_aload_n dX16_branch_83 rfl rfl ?_
      refine ks_getf (T := TX16) (kf := 84) kx_2452 rfl in_X16 cl_X16 (by decide) hO rfl dX16_branch_84 rfl ?_
      refine ks_tv v84 ?_
      refine ks_if_neN (tgt := 96) (by omega) dX16_branch_87 (by decide) rfl (fun h3 => ?_) (fun h3 => ?_)
      · obtain ⟨b, r, ebr⟩ : ∃ b r, cs = b :: r := by
          match cs, h3 with
          | [], h => exact absurd rfl h
          | b :: r, _ => exact ⟨b, r, rfl⟩
        have lr : cs.length = r.length + 1 := by rw [ebr]; rfl
        have e1 : b = dn r.length ∧ r = csE dn r.length := by
          rw [lr] at ecs
          rw [ebr] at ecs
          exact ⟨(List.cons.inj ecs).1, (List.cons.inj ecs).2⟩
        refine ks_iload_n dX16_branch_96 rfl rfl ?_
        refine ks_bipush (x := nI 103) dX16_branch_97 (by decide) rfl ?_
        refine ks_icmp_neN (tgt := 135) (by omega) (by decide) dX16_branch_99 (by decide) rfl (fun h4 => ?_) (fun h4 => ?_)
        · refine ks_aload_n dX16_branch_135 rfl rfl ?_
          refine ks_dup dX16_branch_136 rfl rfl ?_
          refine ks_getf (T := TX16) (kf := 84) kx_2452 rfl in_X16 cl_X16 (by decide) hO rfl dX16_branch_137 rfl ?_
          refine ks_tv v84 ?_
          refine ks_iconst (x := nI 1) dX16_branch_140 (by decide) rfl ?_
          refine ks_subN (by omega) dX16_branch_141 rfl ?_
          refine ks_putf (T := TX16) (kf := 84) kx_2452 rfl in_X16 tyX16_ok nmX16 cl_X16 (by decide) hO (Nat.le_of_ble_eq_true rfl) rfl rfl rfl rfl dX16_branch_142 rfl ?_
          refine md_put mdp_84 ?_
          refine ks_ret rfl dX16_branch_145 ?_
          refine ⟨rfl, va_up V 84 (.int (nI (cs.length - 1))), F, xs, r, ⟨sfK.of (ks_up_set _ _ (by decide)), ks_set_same _ _ _, fun k _ _ _ h4 => va_up_ne _ _ h4⟩, hK.obj hO ⟨va_up_ne _ _ (by decide), va_up_ne _ _ (by decide), va_up_ne _ _ (by decide)⟩, ⟨dn, (ks_set_ne _ _ (by decide)).trans e368, by rw [va_up_self, lr, Nat.add_sub_cancel], e1.2, by omega⟩, Or.inl ⟨(va_up_ne _ _ (by decide)).trans v74, ?_⟩⟩
          unfold brS
          rw [if_neg h99, ebr]
          show (if op = 104 then _ else _) = _
          rw [if_pos (by omega)]
        · refine ks_aload_n dX16_branch_102 rfl rfl ?_
          refine ks_getf (T := TX16) (kf := 83) kx_2451 rfl in_X16 cl_X16 (by decide) hO rfl dX16_branch_103 rfl ?_
          refine ks_aload_n dX16_branch_106 rfl rfl ?_
          refine ks_getf (T := TX16) (kf := 84) kx_2452 rfl in_X16 cl_X16 (by decide) hO rfl dX16_branch_107 rfl ?_
          refine ks_tv v84 ?_
          refine ks_iconst (x := nI 1) dX16_branch_110 (by decide) rfl ?_
          refine ks_subN (by omega) dX16_branch_111 rfl ?_
          refine ks_aload_n dX16_branch_112 rfl rfl ?_
          refine ks_getf (T := TX16) (kf := 83) kx_2451 rfl in_X16 cl_X16 (by decide) hO rfl dX16_branch_113 rfl ?_
          refine ks_aload_n dX16_branch_116 rfl rfl ?_
          refine ks_getf (T := TX16) (kf := 84) kx_2452 rfl in_X16 cl_X16 (by decide) hO rfl dX16_branch_117 rfl ?_
          refine ks_tv v84 ?_
          refine ks_iconst (x := nI 1) dX16_branch_120 (by decide) rfl ?_
          refine ks_subN (by omega) dX16_branch_121 rfl ?_
          refine ks_zaldN (i := cs.length - 1) e368 (by omega) (by decide) dX16_branch_122 rfl ?_
          refine ks_if_neZ (tgt := 130) dX16_branch_123 (by decide) rfl (fun h5 => ?_) (fun h5 => ?_)
          · refine ks_iconst (x := nI 0) dX16_branch_130 (by decide) rfl ?_
            refine ks_zastN (i := cs.length - 1) (v := false) e368 (by omega) (by decide) dX16_branch_131 rfl ?_
            refine ks_goto (tgt := 145) dX16_branch_132 (by decide) ?_
            refine ks_ret rfl dX16_branch_145 ?_
            have u2 : ks_up S (ks_set S 368 (kZ 1601 (va_up dn (cs.length - 1) false))) [368] := ks_up_set _ _ (by decide)
            refine ⟨rfl, V, F, xs, (!b) :: r, ⟨sfK.of (u2.mono (by decide)), u2.at hO (by decide), fun _ _ _ _ _ => rfl⟩, hK.up u2 (by decide) (fun x hx => by rw [List.mem_singleton] at hx; subst hx; exact ⟨_, e368, fun g h => by cases h⟩), ⟨va_up dn (cs.length - 1) false, ks_set_same _ _ _, by rw [v84, lr]; rfl, ?_, by show r.length + 1 ≤ 1600; omega⟩, Or.inl ⟨v74, ?_⟩⟩
            · rw [lr, Nat.add_sub_cancel] at h5 ⊢
              show (!b) :: r = va_up dn r.length false r.length :: csE (va_up dn r.length false) r.length
              rw [va_up_self, csE_c (g := dn) (fun i hi => va_up_ne _ _ (by omega)), ← e1.2, e1.1, h5]
              rfl
            · unfold brS
              rw [if_neg h99, ebr]
              show (if op = 104 then _ else _) = _
              rw [if_neg (by omega)]
          · refine ks_iconst (x := nI 1) dX16_branch_126 (by decide) rfl ?_
            refine ks_goto (tgt := 131) dX16_branch_127 (by decide) ?_
            refine ks_zastN (i := cs.length - 1) (v := true) e368 (by omega) (by decide) dX16_branch_131 rfl ?_
            refine ks_goto (tgt := 145) dX16_branch_132 (by decide) ?_
            refine ks_ret rfl dX16_branch_145 ?_
            have u2 : ks_up S (ks_set S 368 (kZ 1601 (va_up dn (cs.length - 1) true))) [368] := ks_up_set _ _ (by decide)
            refine ⟨rfl, V, F, xs, (!b) :: r, ⟨sfK.of (u2.mono (by decide)), u2.at hO (by decide), fun _ _ _ _ _ => rfl⟩, hK.up u2 (by decide) (fun x hx => by rw [List.mem_singleton] at hx; subst hx; exact ⟨_, e368, fun g h => by cases h⟩), ⟨va_up dn (cs.length - 1) true, ks_set_same _ _ _, by rw [v84, lr]; rfl, ?_, by show r.length + 1 ≤ 1600; omega⟩, Or.inl ⟨v74, ?_⟩⟩
            · rw [lr, Nat.add_sub_cancel] at h5 ⊢
              show (!b) :: r = va_up dn r.length true r.length :: csE (va_up dn r.length true) r.length
              rw [va_up_self, csE_c (g := dn) (fun i hi => va_up_ne _ _ (by omega)), ← e1.2, e1.1, h5]
              rfl
            · unfold brS
              rw [if_neg h99, ebr]
              show (if op = 104 then _ else _) = _
              rw [if_neg (by omega)]
      · refine ks_aload_n dX16_branch_90 rfl rfl ?_
        refine ks_iconst (x := nI 1) dX16_branch_91 (by decide) rfl ?_
        refine ks_putf (T := TX16) (kf := 74) kx_2442 rfl in_X16 tyX16_ok nmX16 cl_X16 (by decide) hO (Nat.le_of_ble_eq_true rfl) rfl rfl rfl rfl dX16_branch_92 rfl ?_
        refine md_put mdp_74 ?_
        refine ks_ret rfl dX16_branch_95 ?_
        obtain ⟨f1, f2⟩ := msK.fail hO hK
        have c0 : cs = [] := List.length_eq_zero_iff.mp h3
        refine ⟨rfl, _, F, xs, cs, ⟨f1.1.mono (by decide), f1.2.1, fun k h1 h2 h3 _ => f1.2.2 k h1 h2 h3⟩, f2, ⟨dn, (ks_set_ne _ _ (by decide)).trans e368, (va_up_ne _ _ (by decide)).trans v84, ecs, hcl⟩, Or.inr ⟨va_up_self _ _ _, ?_⟩⟩
        unfold brS
        rw [if_neg h99, c0]
    · have h99 : op = 99 ∨ op = 100 := Or.inr h2
      refine ks_iconst (x := nI 0) dX16_branch_12 (by decide) rfl ?_
      refine ks_istore_n dX16_branch_13 (by decide) rfl ?_
      refine ks_sub [(3, _), (0, _), (1, _), (2, _)] rfl ?_
      refine ks_iload_n dX16_branch_14 rfl rfl ?_
      refine ks_if_eqZ (tgt := 62) dX16_branch_15 (by decide) rfl (fun h3 => ?_) (fun h3 => ?_)
      · have hn0 : ¬ clN cs = 0 := of_decide_eq_false h3
        exact ks_sub [(0, _), (3, .int (ks_bo false))] rfl (push S V xs false (sfK.rf _ _ _) hO (fun _ _ => rfl) hK e368 (by unfold brS; rw [if_pos h99, if_neg hn0]))
      · have hn0 : clN cs = 0 := of_decide_eq_true h3
        refine ks_aload_n dX16_branch_18 rfl rfl ?_
        refine ks_iconst (x := nI 1) dX16_branch_19 (by decide) rfl ?_
        refine ks_callV (n := 1) (M' := mX16_need) (c_rs_need (d := d) hO hK (n := 1) (by decide)) hO cl_X16 rfl kx_2165 kx_2167 kxp_87 kx_30 kx_2168 (by decide +kernel) rfl (by decide) (Nat.le_of_ble_eq_true rfl) rfl dX16_branch_20 rfl (fun z2 S2 y2 => ?_)
        obtain ⟨rfl, n1, n2⟩ := y2
        refine ks_if_neZ (tgt := 27) dX16_branch_23 (by decide) rfl (fun h4 => ?_) (fun h4 => ?_)
        · have hn := of_decide_eq_true h4
          have e2 := n1 hn
          obtain rfl := e2.symm
          have x0 : ¬ xs = [] := fun h => by rw [h] at hn; exact absurd hn (by decide)
          have tt : topTr xs = isTr (xs.getD 0 []) := by match xs, hn with | a :: r, _ => rfl
          refine ks_aload_n dX16_branch_27 rfl rfl ?_
          refine ks_iconst (x := nI 0) dX16_branch_28 (by decide) rfl ?_
          refine ks_callV (n := 1) (M' := mX16_isTrue) (c_rs_isTrue (d := d) hO hK (k := 0) (by omega)) hO cl_X16 rfl kx_2169 kx_2171 kxp_88 kx_30 kx_2172 (by decide +kernel) rfl (by decide) (Nat.le_of_ble_eq_true rfl) rfl dX16_branch_29 rfl (fun z3 S3 y3 => ?_)
          obtain ⟨rfl, hT3⟩ := y3
          obtain rfl := hT3.symm
          rw [← tt]
          refine ks_iload_n dX16_branch_32 rfl rfl ?_
          refine ks_bipush (x := nI 99) dX16_branch_33 (by decide) rfl ?_
          refine ks_icmp_neN (tgt := 42) (by omega) (by decide) dX16_branch_35 (by decide) rfl (fun h5 => ?_) (fun h5 => ?_)
          · refine ks_iconst (x := nI 0) dX16_branch_42 (by decide) rfl ?_
            refine ks_icmp_neZ (z := (topTr xs)) (w := false) (tgt := 50) dX16_branch_43 (by decide) rfl (fun h6 => ?_) (fun h6 => ?_)
            · refine ks_iconst (x := nI 0) dX16_branch_50 (by decide) rfl ?_
              refine ks_istore_n dX16_branch_51 (by decide) rfl ?_
              refine ks_sub [(3, _), (0, _), (1, _), (2, _)] rfl ?_
              refine ks_aload_n dX16_branch_52 rfl rfl ?_
              refine ks_dup dX16_branch_53 rfl rfl ?_
              refine ks_getf (T := TX16) (kf := 67) kx_2435 rfl in_X16 cl_X16 (by decide) hO rfl dX16_branch_54 rfl ?_
              refine ks_tv v67 ?_
              refine ks_iconst (x := nI 1) dX16_branch_57 (by decide) rfl ?_
              refine ks_subN (by omega) dX16_branch_58 rfl ?_
              refine ks_putf (T := TX16) (kf := 67) kx_2435 rfl in_X16 tyX16_ok nmX16 cl_X16 (by decide) hO (Nat.le_of_ble_eq_true rfl) rfl rfl rfl rfl dX16_branch_59 rfl ?_
              refine md_put mdp_67 ?_
              obtain ⟨Q3, M3⟩ := rsQ.pop (k := 1) hO hK
              exact ks_sub [(0, _), (3, .int (ks_bo false))] rfl (push _ _ (xs.drop 1) false (M3.1.mono (by decide)) (ks_set_same _ _ _) (fun k h => va_up_ne _ _ h) Q3 ((ks_set_ne _ _ (by decide)).trans e368) (by
                unfold brS
                rw [if_pos h99, if_pos hn0, if_neg x0]
                rw [show (topTr xs == decide (op = 99)) = false by rw [decide_eq_false (p := op = 99) (by omega)]; exact beq_eq_false_iff_ne.mpr h6]))
            · refine ks_iconst (x := nI 1) dX16_branch_46 (by decide) rfl ?_
              refine ks_goto (tgt := 51) dX16_branch_47 (by decide) ?_
              refine ks_istore_n dX16_branch_51 (by decide) rfl ?_
              refine ks_sub [(3, _), (0, _), (1, _), (2, _)] rfl ?_
              refine ks_aload_n dX16_branch_52 rfl rfl ?_
              refine ks_dup dX16_branch_53 rfl rfl ?_
              refine ks_getf (T := TX16) (kf := 67) kx_2435 rfl in_X16 cl_X16 (by decide) hO rfl dX16_branch_54 rfl ?_
              refine ks_tv v67 ?_
              refine ks_iconst (x := nI 1) dX16_branch_57 (by decide) rfl ?_
              refine ks_subN (by omega) dX16_branch_58 rfl ?_
              refine ks_putf (T := TX16) (kf := 67) kx_2435 rfl in_X16 tyX16_ok nmX16 cl_X16 (by decide) hO (Nat.le_of_ble_eq_true rfl) rfl rfl rfl rfl dX16_branch_59 rfl ?_
              refine md_put mdp_67 ?_
              obtain ⟨Q3, M3⟩ := rsQ.pop (k := 1) hO hK
              exact ks_sub [(0, _), (3, .int (ks_bo true))] rfl (push _ _ (xs.drop 1) true (M3.1.mono (by decide)) (ks_set_same _ _ _) (fun k h => va_up_ne _ _ h) Q3 ((ks_set_ne _ _ (by decide)).trans e368) (by
                unfold brS
                rw [if_pos h99, if_pos hn0, if_neg x0]
                rw [show (topTr xs == decide (op = 99)) = true by rw [decide_eq_false (p := op = 99) (by omega)]; exact beq_iff_eq.mpr h6]))
          · omega
        · refine ks_ret rfl dX16_branch_26 ?_
          have hn := of_decide_eq_false h4
          have e2 := n2 hn
          obtain rfl := e2.symm
          obtain ⟨f1, f2⟩ := msK.fail hO hK
          have x0 : xs = [] := List.length_eq_zero_iff.mp (by omega)
          refine ⟨rfl, _, F, xs, cs, ⟨f1.1.mono (by decide), f1.2.1, fun k h1 h2 h3 _ => f1.2.2 k h1 h2 h3⟩, f2, ⟨dn, (ks_set_ne _ _ (by decide)).trans e368, (va_up_ne _ _ (by decide)).trans v84, ecs, hcl⟩, Or.inr ⟨va_up_self _ _ _, ?_⟩⟩
          unfold brS
          rw [if_pos h99, if_pos hn0, if_pos x0]
