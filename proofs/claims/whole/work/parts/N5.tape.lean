/-! THE REFERENCE: its public methods, the tape -/
/-- from S to S' nothing but 290 and the cells L was written, of the object's fields F alone -/
def pbK (L F : List Nat) (S S' : ks_S) (V V' : Nat → Value) : Prop := ks_up S S' (290 :: L) ∧ S'.2.2 290 = some (rfE V') ∧ ∀ k, k ∉ F → V' k = V k
theorem pbK.trans {L F : List Nat} {S S1 S2 : ks_S} {V V1 V2 : Nat → Value} (h : pbK L F S S1 V V1) (k : pbK L F S1 S2 V1 V2) : pbK L F S S2 V V2 := ⟨h.1.trans k.1, k.2.1, fun j hj => (k.2.2 j hj).trans (h.2.2 j hj)⟩
theorem pbK.mono {L F L' F' : List Nat} {S S1 : ks_S} {V V1 : Nat → Value} (h : pbK L F S S1 V V1) (hl : ∀ a, a ∈ L → a ∈ L') (hf : ∀ a, a ∈ F → a ∈ F') : pbK L' F' S S1 V V1 := ⟨h.1.mono (fun a ha => by
  rcases List.mem_cons.mp ha with rfl | h1
  · exact List.mem_cons_self
  · exact List.mem_cons_of_mem _ (hl a h1)), h.2.1, fun k hk => h.2.2 k (fun hm => hk (hf k hm))⟩
theorem buK.pb {S S1 : ks_S} {V V1 : Nat → Value} {r f : Nat} (h : buK S S1 V V1 r f) : pbK [r] [f] S S1 V V1 := ⟨h.1, h.2.1, fun k hk => h.2.2 k (fun e => hk (by rw [e]; exact List.mem_singleton.mpr rfl))⟩
theorem pbK.bu {L F : List Nat} {S S1 : ks_S} {V V1 : Nat → Value} {r N f : Nat} {m : List Nat} (h : pbK L F S S1 V V1) (hB : buX S V r N f m) (hr : r ∉ 290 :: L) (hf : f ∉ F) : buX S1 V1 r N f m := by
  obtain ⟨v, g, e, k⟩ := hB
  exact ⟨(h.2.2 f hf).trans v, g, h.1.at e hr, k⟩
theorem bytL_mg {g : Nat → Nat} {T : List Nat} (em : T = bytL g 0 T.length) {j : Nat} (hj : j < T.length) : g j = mg T j := by
  have e9 : T.getD j 0 = (bytL g 0 T.length).getD j 0 := congrArg (fun l : List Nat => l.getD j 0) em
  rw [bytL_at _ _ _ hj, Nat.zero_add] at e9
  exact e9.symm
theorem bytL_set {g : Nat → Nat} {n k c : Nat} : bytL (va_up g k c) 0 n = (bytL g 0 n).set k c := by
  unfold bytL
  refine List.ext_getElem (by simp) (fun i h1 h2 => ?_)
  rw [List.getElem_set]
  simp only [List.getElem_map, List.getElem_range, Nat.zero_add]
  by_cases hk : k = i
  · subst hk
    rw [if_pos rfl, va_up_self]
  · rw [if_neg hk, va_up_ne _ _ (fun h => hk h.symm)]
def fdL (x : Int32) : List Nat := [ks_by (x >>> (nI 24 &&& 31)), ks_by (x >>> (nI 16 &&& 31)), ks_by (x >>> (nI 8 &&& 31)), ks_by (x >>> (nI 0 &&& 31))]
set_option maxRecDepth 100000 in
set_option maxHeartbeats 800000 in
theorem c_md_good1 {l : Launch} {G : ks_G} {d : Nat} {S : ks_S} {V : Nat → Value} {c : Nat} (hO : S.2.2 290 = some (rfE V)) : ks_P l G yX16_good mX16_good d [.ref 290, .int (nI 1), .int (nI c)] S (fun z S' => z = some (.int (nI 1)) ∧ ∃ V', pbK [] [111] S S' V V' ∧ V' 111 = .int (nI 0)) := by
  refine ks_of (by decide) rfl rfl (Nat.le_of_ble_eq_true rfl) ?_
  show ks_X l G mX16_good d 0 [(0, .ref 290), (1, .int (nI 1)), (2, .int (nI c))] [] S _
  refine ks_aload_n dX16_good_0 rfl rfl ?_
  refine ks_iload_n dX16_good_1 rfl rfl ?_
  refine ks_if_eqN (tgt := 9) (by decide) dX16_good_2 (by decide) rfl (fun hc2 => ?_) (fun hc2 => ?_)
  · exact absurd hc2 (by decide)
  · refine ks_iconst (x := nI 0) dX16_good_5 (by decide) rfl ?_
    refine ks_goto (tgt := 10) dX16_good_6 (by decide) ?_
    refine ks_putf (T := TX16) (kf := 111) kx_2479 rfl in_X16 tyX16_ok nmX16 cl_X16 (by decide) hO (Nat.le_of_ble_eq_true rfl) rfl rfl rfl rfl dX16_good_10 rfl ?_
    refine md_put mdp_111 ?_
    refine ks_iload_n dX16_good_13 rfl rfl ?_
    refine ks_zret rfl rfl dX16_good_14 ?_
    exact ⟨rfl, _, ⟨ks_up_set _ _ (by decide), ks_set_same _ _ _, fun k hk => va_up_ne _ _ (fun h => hk (by rw [h]; decide))⟩, va_up_self _ _ _⟩
set_option maxRecDepth 100000 in
set_option maxHeartbeats 800000 in
theorem c_md_good0 {l : Launch} {G : ks_G} {d : Nat} {S : ks_S} {V : Nat → Value} {c : Nat} (hO : S.2.2 290 = some (rfE V)) : ks_P l G yX16_good mX16_good d [.ref 290, .int (nI 0), .int (nI c)] S (fun z S' => z = some (.int (nI 0)) ∧ ∃ V', pbK [] [111] S S' V V' ∧ V' 111 = .int (nI c)) := by
  refine ks_of (by decide) rfl rfl (Nat.le_of_ble_eq_true rfl) ?_
  show ks_X l G mX16_good d 0 [(0, .ref 290), (1, .int (nI 0)), (2, .int (nI c))] [] S _
  refine ks_aload_n dX16_good_0 rfl rfl ?_
  refine ks_iload_n dX16_good_1 rfl rfl ?_
  refine ks_if_eqN (tgt := 9) (by decide) dX16_good_2 (by decide) rfl (fun hc2 => ?_) (fun hc2 => ?_)
  · refine ks_iload_n dX16_good_9 rfl rfl ?_
    refine ks_putf (T := TX16) (kf := 111) kx_2479 rfl in_X16 tyX16_ok nmX16 cl_X16 (by decide) hO (Nat.le_of_ble_eq_true rfl) rfl rfl rfl rfl dX16_good_10 rfl ?_
    refine md_put mdp_111 ?_
    refine ks_iload_n dX16_good_13 rfl rfl ?_
    refine ks_zret rfl rfl dX16_good_14 ?_
    exact ⟨rfl, _, ⟨ks_up_set _ _ (by decide), ks_set_same _ _ _, fun k hk => va_up_ne _ _ (fun h => hk (by rw [h]; decide))⟩, va_up_self _ _ _⟩
  · exact absurd hc2 (by decide)
set_option maxRecDepth 100000 in
set_option maxHeartbeats 800000 in
theorem c_md_thrown {l : Launch} {G : ks_G} {d : Nat} {S : ks_S} {V : Nat → Value} {c : Nat} (hO : S.2.2 290 = some (rfE V)) (hv : V 111 = .int (nI c)) : ks_P l G yX16_thrown mX16_thrown d [.ref 290] S (fun z S' => z = some (.int (nI c)) ∧ S' = S) := by
  refine ks_of (by decide) rfl rfl (Nat.le_of_ble_eq_true rfl) ?_
  show ks_X l G mX16_thrown d 0 [(0, .ref 290)] [] S _
  refine ks_aload_n dX16_thrown_0 rfl rfl ?_
  refine ks_getf (T := TX16) (kf := 111) kx_2479 rfl in_X16 cl_X16 (by decide) hO rfl dX16_thrown_1 rfl ?_
  refine ks_tv hv ?_
  refine ks_iret rfl dX16_thrown_4 ?_
  exact ⟨rfl, rfl⟩
set_option maxRecDepth 100000 in
set_option maxHeartbeats 800000 in
theorem l_four {l : Launch} {G : ks_G} {d : Nat} {S : ks_S} {V : Nat → Value} {T : List Nat} {x k : Int32} (hO : S.2.2 290 = some (rfE V)) (hB : buX S V 531 1600 110 T) (hk : ¬ k < 0) (hf : T.length < 1600) {P9 : Option Value → ks_S → Prop} (hk9 : ∀ (S1 : ks_S) (V1 : Nat → Value), buK S S1 V V1 531 110 → buX S1 V1 531 1600 110 (T ++ [ks_by (x >>> (k &&& 31))]) → ks_X l G mX16_four d 3 [(0, .ref 290), (1, .int x), (2, .int (k + Int32.ofInt (-8)))] [] S1 P9) : ks_X l G mX16_four d 3 [(0, .ref 290), (1, .int x), (2, .int k)] [] S P9 := by
  obtain ⟨vT, g, eT, kg, hT, em⟩ := hB
  refine ks_iload_n dX16_four_3 rfl rfl ?_
  refine ks_if_lt (tgt := 36) dX16_four_4 (by decide) rfl (fun h1 => ?_) (fun h1 => ?_)
  · exact absurd h1 hk
  · refine ks_aload_n dX16_four_7 rfl rfl ?_
    refine ks_getf (T := TX16) (kf := 109) kx_2477 rfl in_X16 cl_X16 (by decide) hO rfl dX16_four_8 rfl ?_
    refine ks_aload_n dX16_four_11 rfl rfl ?_
    refine ks_getf (T := TX16) (kf := 110) kx_2478 rfl in_X16 cl_X16 (by decide) hO rfl dX16_four_12 rfl ?_
    refine ks_tv vT ?_
    refine ks_iload_n dX16_four_15 rfl rfl ?_
    refine ks_iload_n dX16_four_16 rfl rfl ?_
    refine ks_ishr dX16_four_17 rfl ?_
    refine ks_i2b dX16_four_18 rfl ?_
    refine ks_bastB (i := T.length) (c := ks_by (x >>> (k &&& 31))) eT rfl (by omega) (by decide) (ks_by_i8 _) dX16_four_19 rfl ?_
    refine ks_aload_n dX16_four_20 rfl rfl ?_
    refine ks_dup dX16_four_21 rfl rfl ?_
    refine ks_getf (T := TX16) (kf := 110) kx_2478 rfl in_X16 cl_X16 (by decide) ((ks_set_ne _ _ (by decide)).trans hO) rfl dX16_four_22 rfl ?_
    refine ks_tv vT ?_
    refine ks_iconst (x := nI 1) dX16_four_25 (by decide) rfl ?_
    refine ks_addN dX16_four_26 rfl ?_
    refine ks_putf (T := TX16) (kf := 110) kx_2478 rfl in_X16 tyX16_ok nmX16 cl_X16 (by decide) ((ks_set_ne _ _ (by decide)).trans hO) (Nat.le_of_ble_eq_true rfl) rfl rfl rfl rfl dX16_four_27 rfl ?_
    refine md_put mdp_110 ?_
    refine ks_iinc dX16_four_30 rfl rfl (by decide) rfl ?_
    refine ks_sub [(2, _), (0, _), (1, _)] rfl ?_
    refine ks_goto (tgt := 3) dX16_four_33 (by decide) ?_
    refine ks_sub [(0, _), (1, _), (2, _)] rfl (hk9 _ (va_up V 110 (.int (nI (T.length + 1)))) ⟨(ks_up_set (L := [290, 531]) _ _ (by decide)).trans (ks_up_set _ _ (by decide)), ks_set_same _ _ _, fun k hk => va_up_ne _ _ hk⟩ ⟨by rw [va_up_self, List.length_append]; rfl, va_up g T.length (ks_by (x >>> (k &&& 31))), (ks_set_ne _ _ (by decide)).trans (ks_set_same _ _ _), kO_up kg (ks_by_lt _), by rw [List.length_append]; show T.length + 1 ≤ 1600; omega, by rw [List.length_append]; exact bytL_app1 (x := []) em⟩)
set_option maxRecDepth 100000 in
set_option maxHeartbeats 800000 in
theorem c_md_four {l : Launch} {G : ks_G} {d : Nat} {S : ks_S} {V : Nat → Value} {T : List Nat} {x : Int32} (hO : S.2.2 290 = some (rfE V)) (hB : buX S V 531 1600 110 T) (hf : T.length + 4 ≤ 1600) : ks_P l G yX16_four mX16_four d [.ref 290, .int x] S (fun z S' => z = none ∧ ∃ V', buK S S' V V' 531 110 ∧ buX S' V' 531 1600 110 (T ++ fdL x)) := by
  refine ks_of (by decide) rfl rfl (Nat.le_of_ble_eq_true rfl) ?_
  show ks_X l G mX16_four d 0 [(0, .ref 290), (1, .int x)] [] S _
  refine ks_bipush (x := nI 24) dX16_four_0 (by decide) rfl ?_
  refine ks_istore_n dX16_four_2 (by decide) rfl ?_
  refine ks_sub [(2, _), (0, _), (1, _)] rfl ?_
  refine ks_sub [(0, _), (1, _), (2, .int (nI 24))] rfl (l_four hO hB (by decide) (by omega) (fun S1 V1 K1 B1 => ?_))
  refine ks_sub [(0, _), (1, _), (2, .int (nI 16))] rfl (l_four K1.2.1 B1 (by decide) (by simp only [List.length_append, List.length_cons, List.length_nil]; omega) (fun S2 V2 J2 B2 => ?_))
  have K2 := K1.trans J2
  refine ks_sub [(0, _), (1, _), (2, .int (nI 8))] rfl (l_four K2.2.1 B2 (by decide) (by simp only [List.length_append, List.length_cons, List.length_nil]; omega) (fun S3 V3 J3 B3 => ?_))
  have K3 := K2.trans J3
  refine ks_sub [(0, _), (1, _), (2, .int (nI 0))] rfl (l_four K3.2.1 B3 (by decide) (by simp only [List.length_append, List.length_cons, List.length_nil]; omega) (fun S4 V4 J4 B4 => ?_))
  have K4 := K3.trans J4
  refine ks_sub [(0, _), (1, _), (2, .int (-8))] rfl ?_
  refine ks_iload_n dX16_four_3 rfl rfl ?_
  refine ks_if_lt (tgt := 36) dX16_four_4 (by decide) rfl (fun h1 => ?_) (fun h1 => ?_)
  · refine ks_ret rfl dX16_four_36 ?_
    refine ⟨rfl, V4, K4, ?_⟩
    rw [List.append_assoc, List.append_assoc, List.append_assoc] at B4
    exact B4
  · exact absurd h1 (by decide)
set_option maxRecDepth 100000 in
set_option maxHeartbeats 800000 in
theorem r_feed {l : Launch} {G : ks_G} {d : Nat} {S : ks_S} {V : Nat → Value} (hO : S.2.2 290 = some (rfE V)) {T : List Nat} (hB : buX S V 531 1600 110 T) {x1 x2 x3 x4 x5 : Int32} (hf : 1600 < T.length + 20) : ks_P l G yX16_feed mX16_feed (d + 1) [.ref 290, .int x1, .int x2, .int x3, .int x4, .int x5] S (fun z S' => z = some (.int (nI 0)) ∧ ∃ V', pbK [] [111] S S' V V' ∧ V' 111 = .int (nI 1)) := by
  obtain ⟨vT, g, eT, kg, hT, em⟩ := id hB
  refine ks_of (by decide) rfl rfl (Nat.le_of_ble_eq_true rfl) ?_
  show ks_X l G mX16_feed (d + 1) 0 [(0, .ref 290), (1, .int x1), (2, .int x2), (3, .int x3), (4, .int x4), (5, .int x5)] [] S _
  refine ks_aload_n dX16_feed_0 rfl rfl ?_
  refine ks_aload_n dX16_feed_1 rfl rfl ?_
  refine ks_getf (T := TX16) (kf := 110) kx_2478 rfl in_X16 cl_X16 (by decide) hO rfl dX16_feed_2 rfl ?_
  refine ks_tv vT ?_
  refine ks_bipush (x := nI 20) dX16_feed_5 (by decide) rfl ?_
  refine ks_addN dX16_feed_7 rfl ?_
  refine ks_sipush (x := nI 1600) dX16_feed_8 (by decide) rfl ?_
  refine ks_icmp_gtN (tgt := 18) (by omega) (by decide) dX16_feed_11 (by decide) rfl (fun hc11 => ?_) (fun hc11 => ?_)
  · refine ks_iconst (x := nI 0) dX16_feed_18 (by decide) rfl ?_
    refine ks_iconst (x := nI 1) dX16_feed_19 (by decide) rfl ?_
    refine ks_callV (n := 2) (M' := mX16_good) (c_md_good0 hO) hO cl_X16 rfl kx_2734 kx_2736 kxp_127 kx_30 kx_2737 (by decide +kernel) rfl (by decide) (Nat.le_of_ble_eq_true rfl) rfl dX16_feed_20 rfl (fun z20 S20 y20 => ?_)
    obtain ⟨rfl, V20, J20, v20⟩ := y20
    refine ks_if_neN (tgt := 28) (by decide) dX16_feed_23 (by decide) rfl (fun hc23 => ?_) (fun hc23 => ?_)
    · exact absurd hc23 (by decide)
    · refine ks_iconst (x := nI 0) dX16_feed_26 (by decide) rfl ?_
      refine ks_iret rfl dX16_feed_27 ?_
      exact ⟨rfl, _, J20, v20⟩
  · refine ks_iconst (x := nI 1) dX16_feed_14 (by decide) rfl ?_
    refine ks_goto (tgt := 19) dX16_feed_15 (by decide) ?_
    refine ks_iconst (x := nI 1) dX16_feed_19 (by decide) rfl ?_
    omega
theorem fdL_len (x : Int32) : (fdL x).length = 4 := rfl
set_option maxRecDepth 100000 in
set_option maxHeartbeats 800000 in
theorem c_mr_feed {l : Launch} {G : ks_G} {d : Nat} {S : ks_S} {V : Nat → Value} (hO : S.2.2 290 = some (rfE V)) {T : List Nat} (hB : buX S V 531 1600 110 T) {x1 x2 x3 x4 x5 : Int32} (hf : T.length + 20 ≤ 1600) : ks_P l G yX16_feed mX16_feed (d + 1) [.ref 290, .int x1, .int x2, .int x3, .int x4, .int x5] S (fun z S' => z = some (.int (nI (T.length + 20))) ∧ ∃ V', pbK [531] [110, 111] S S' V V' ∧ V' 111 = .int (nI 0) ∧ buX S' V' 531 1600 110 (T ++ fdL x1 ++ fdL x2 ++ fdL x3 ++ fdL x4 ++ fdL x5)) := by
  obtain ⟨vT, g, eT, kg, hT, em⟩ := id hB
  refine ks_of (by decide) rfl rfl (Nat.le_of_ble_eq_true rfl) ?_
  show ks_X l G mX16_feed (d + 1) 0 [(0, .ref 290), (1, .int x1), (2, .int x2), (3, .int x3), (4, .int x4), (5, .int x5)] [] S _
  refine ks_aload_n dX16_feed_0 rfl rfl ?_
  refine ks_aload_n dX16_feed_1 rfl rfl ?_
  refine ks_getf (T := TX16) (kf := 110) kx_2478 rfl in_X16 cl_X16 (by decide) hO rfl dX16_feed_2 rfl ?_
  refine ks_tv vT ?_
  refine ks_bipush (x := nI 20) dX16_feed_5 (by decide) rfl ?_
  refine ks_addN dX16_feed_7 rfl ?_
  refine ks_sipush (x := nI 1600) dX16_feed_8 (by decide) rfl ?_
  refine ks_icmp_gtN (tgt := 18) (by omega) (by decide) dX16_feed_11 (by decide) rfl (fun hc11 => ?_) (fun hc11 => ?_)
  · refine ks_iconst (x := nI 0) dX16_feed_18 (by decide) rfl ?_
    refine ks_iconst (x := nI 1) dX16_feed_19 (by decide) rfl ?_
    omega
  · refine ks_iconst (x := nI 1) dX16_feed_14 (by decide) rfl ?_
    refine ks_goto (tgt := 19) dX16_feed_15 (by decide) ?_
    refine ks_iconst (x := nI 1) dX16_feed_19 (by decide) rfl ?_
    refine ks_callV (n := 2) (M' := mX16_good) (c_md_good1 hO) hO cl_X16 rfl kx_2734 kx_2736 kxp_127 kx_30 kx_2737 (by decide +kernel) rfl (by decide) (Nat.le_of_ble_eq_true rfl) rfl dX16_feed_20 rfl (fun z20 S20 y20 => ?_)
    obtain ⟨rfl, V20, J20, v20⟩ := y20
    refine ks_if_neN (tgt := 28) (by decide) dX16_feed_23 (by decide) rfl (fun hc23 => ?_) (fun hc23 => ?_)
    · have B0 : buX S20 V20 531 1600 110 T := J20.bu hB (by decide) (by decide)
      have K0 : pbK [531] [110, 111] S S20 V V20 := J20.mono (by decide) (by decide)
      refine ks_aload_n dX16_feed_28 rfl rfl ?_
      refine ks_iload_n dX16_feed_29 rfl rfl ?_
      refine ks_callV (n := 1) (M' := mX16_four) (c_md_four (x := x1) K0.2.1 B0 (by first | omega | (simp only [List.length_append, fdL_len]; omega))) J20.2.1 cl_X16 rfl kx_2738 kx_2740 kxp_128 kx_30 kx_2741 (by decide +kernel) rfl (by decide) (Nat.le_of_ble_eq_true rfl) rfl dX16_feed_30 rfl (fun z1 S1 y1 => ?_)
      obtain ⟨rfl, V1, J1, B1⟩ := y1
      have K1 := K0.trans (J1.pb.mono (by decide) (by decide))
      refine ks_aload_n dX16_feed_33 rfl rfl ?_
      refine ks_iload_n dX16_feed_34 rfl rfl ?_
      refine ks_callV (n := 1) (M' := mX16_four) (c_md_four (x := x2) K1.2.1 B1 (by first | omega | (simp only [List.length_append, fdL_len]; omega))) K1.2.1 cl_X16 rfl kx_2738 kx_2740 kxp_128 kx_30 kx_2741 (by decide +kernel) rfl (by decide) (Nat.le_of_ble_eq_true rfl) rfl dX16_feed_35 rfl (fun z2 S2 y2 => ?_)
      obtain ⟨rfl, V2, J2, B2⟩ := y2
      have K2 := K1.trans (J2.pb.mono (by decide) (by decide))
      refine ks_aload_n dX16_feed_38 rfl rfl ?_
      refine ks_iload_n dX16_feed_39 rfl rfl ?_
      refine ks_callV (n := 1) (M' := mX16_four) (c_md_four (x := x3) K2.2.1 B2 (by first | omega | (simp only [List.length_append, fdL_len]; omega))) K2.2.1 cl_X16 rfl kx_2738 kx_2740 kxp_128 kx_30 kx_2741 (by decide +kernel) rfl (by decide) (Nat.le_of_ble_eq_true rfl) rfl dX16_feed_40 rfl (fun z3 S3 y3 => ?_)
      obtain ⟨rfl, V3, J3, B3⟩ := y3
      have K3 := K2.trans (J3.pb.mono (by decide) (by decide))
      refine ks_aload_n dX16_feed_43 rfl rfl ?_
      refine ks_iload dX16_feed_44 rfl rfl ?_
      refine ks_callV (n := 1) (M' := mX16_four) (c_md_four (x := x4) K3.2.1 B3 (by first | omega | (simp only [List.length_append, fdL_len]; omega))) K3.2.1 cl_X16 rfl kx_2738 kx_2740 kxp_128 kx_30 kx_2741 (by decide +kernel) rfl (by decide) (Nat.le_of_ble_eq_true rfl) rfl dX16_feed_46 rfl (fun z4 S4 y4 => ?_)
      obtain ⟨rfl, V4, J4, B4⟩ := y4
      have K4 := K3.trans (J4.pb.mono (by decide) (by decide))
      refine ks_aload_n dX16_feed_49 rfl rfl ?_
      refine ks_iload dX16_feed_50 rfl rfl ?_
      refine ks_callV (n := 1) (M' := mX16_four) (c_md_four (x := x5) K4.2.1 B4 (by first | omega | (simp only [List.length_append, fdL_len]; omega))) K4.2.1 cl_X16 rfl kx_2738 kx_2740 kxp_128 kx_30 kx_2741 (by decide +kernel) rfl (by decide) (Nat.le_of_ble_eq_true rfl) rfl dX16_feed_52 rfl (fun z5 S5 y5 => ?_)
      obtain ⟨rfl, V5, J5, B5⟩ := y5
      have K5 := K4.trans (J5.pb.mono (by decide) (by decide))
      refine ks_aload_n dX16_feed_55 rfl rfl ?_
      refine ks_getf (T := TX16) (kf := 110) kx_2478 rfl in_X16 cl_X16 (by decide) K5.2.1 rfl dX16_feed_56 rfl ?_
      refine ks_tv B5.1 ?_
      refine ks_iret rfl dX16_feed_59 ?_
      refine ⟨?_, V5, K5, ?_, B5⟩
      · simp only [List.length_append, fdL_len]
      · rw [J5.2.2 111 (by decide), J4.2.2 111 (by decide), J3.2.2 111 (by decide), J2.2.2 111 (by decide), J1.2.2 111 (by decide)]
        exact v20
    · exact absurd hc23 (by decide)
set_option maxRecDepth 100000 in
set_option maxHeartbeats 800000 in
theorem r_end {l : Launch} {G : ks_G} {d : Nat} {S : ks_S} {V : Nat → Value} (hO : S.2.2 290 = some (rfE V)) {T : List Nat} (hB : buX S V 531 1600 110 T) {x : Int32} (hx : ¬ (¬ x < 0 ∧ x ≤ nI T.length)) : ks_P l G yX16_end mX16_end (d + 1) [.ref 290, .int x] S (fun z S' => z = some (.int (nI 0)) ∧ ∃ V', pbK [] [111] S S' V V' ∧ V' 111 = .int (nI 1)) := by
  obtain ⟨vT, g, eT, kg, hT, em⟩ := id hB
  refine ks_of (by decide) rfl rfl (Nat.le_of_ble_eq_true rfl) ?_
  show ks_X l G mX16_end (d + 1) 0 [(0, .ref 290), (1, .int x)] [] S _
  refine ks_aload_n dX16_end_0 rfl rfl ?_
  refine ks_iload_n dX16_end_1 rfl rfl ?_
  refine ks_if_lt (tgt := 17) dX16_end_2 (by decide) rfl (fun hc2 => ?_) (fun hc2 => ?_)
  · refine ks_iconst (x := nI 0) dX16_end_17 (by decide) rfl ?_
    refine ks_iconst (x := nI 1) dX16_end_18 (by decide) rfl ?_
    refine ks_callV (n := 2) (M' := mX16_good) (c_md_good0 hO) hO cl_X16 rfl kx_2734 kx_2736 kxp_127 kx_30 kx_2737 (by decide +kernel) rfl (by decide) (Nat.le_of_ble_eq_true rfl) rfl dX16_end_19 rfl (fun z19 S19 y19 => ?_)
    obtain ⟨rfl, V19, J19, v19⟩ := y19
    refine ks_if_neN (tgt := 27) (by decide) dX16_end_22 (by decide) rfl (fun hc22 => ?_) (fun hc22 => ?_)
    · exact absurd hc22 (by decide)
    · refine ks_iconst (x := nI 0) dX16_end_25 (by decide) rfl ?_
      refine ks_iret rfl dX16_end_26 ?_
      exact ⟨rfl, _, J19, v19⟩
  · refine ks_iload_n dX16_end_5 rfl rfl ?_
    refine ks_aload_n dX16_end_6 rfl rfl ?_
    refine ks_getf (T := TX16) (kf := 110) kx_2478 rfl in_X16 cl_X16 (by decide) hO rfl dX16_end_7 rfl ?_
    refine ks_tv vT ?_
    refine ks_icmp_gt (tgt := 17) dX16_end_10 (by decide) rfl (fun hc10 => ?_) (fun hc10 => ?_)
    · refine ks_iconst (x := nI 0) dX16_end_17 (by decide) rfl ?_
      refine ks_iconst (x := nI 1) dX16_end_18 (by decide) rfl ?_
      refine ks_callV (n := 2) (M' := mX16_good) (c_md_good0 hO) hO cl_X16 rfl kx_2734 kx_2736 kxp_127 kx_30 kx_2737 (by decide +kernel) rfl (by decide) (Nat.le_of_ble_eq_true rfl) rfl dX16_end_19 rfl (fun z19 S19 y19 => ?_)
      obtain ⟨rfl, V19, J19, v19⟩ := y19
      refine ks_if_neN (tgt := 27) (by decide) dX16_end_22 (by decide) rfl (fun hc22 => ?_) (fun hc22 => ?_)
      · exact absurd hc22 (by decide)
      · refine ks_iconst (x := nI 0) dX16_end_25 (by decide) rfl ?_
        refine ks_iret rfl dX16_end_26 ?_
        exact ⟨rfl, _, J19, v19⟩
    · refine ks_iconst (x := nI 1) dX16_end_13 (by decide) rfl ?_
      refine ks_goto (tgt := 18) dX16_end_14 (by decide) ?_
      refine ks_iconst (x := nI 1) dX16_end_18 (by decide) rfl ?_
      exact absurd ⟨hc2, Int32.not_lt.mp hc10⟩ hx
set_option maxRecDepth 100000 in
set_option maxHeartbeats 800000 in
theorem c_mr_end {l : Launch} {G : ks_G} {d : Nat} {S : ks_S} {V : Nat → Value} (hO : S.2.2 290 = some (rfE V)) {T : List Nat} (hB : buX S V 531 1600 110 T) {k : Nat} (hk : k ≤ T.length) : ks_P l G yX16_end mX16_end (d + 1) [.ref 290, .int (nI k)] S (fun z S' => z = some (.int (nI k)) ∧ ∃ V', pbK [] [110, 111] S S' V V' ∧ V' 111 = .int (nI 0) ∧ buX S' V' 531 1600 110 (T.take k)) := by
  obtain ⟨vT, g, eT, kg, hT, em⟩ := id hB
  refine ks_of (by decide) rfl rfl (Nat.le_of_ble_eq_true rfl) ?_
  show ks_X l G mX16_end (d + 1) 0 [(0, .ref 290), (1, .int (nI k))] [] S _
  refine ks_aload_n dX16_end_0 rfl rfl ?_
  refine ks_iload_n dX16_end_1 rfl rfl ?_
  refine ks_if_ltN (tgt := 17) (by omega) dX16_end_2 (by decide) rfl ?_
  refine ks_iload_n dX16_end_5 rfl rfl ?_
  refine ks_aload_n dX16_end_6 rfl rfl ?_
  refine ks_getf (T := TX16) (kf := 110) kx_2478 rfl in_X16 cl_X16 (by decide) hO rfl dX16_end_7 rfl ?_
  refine ks_tv vT ?_
  refine ks_icmp_gtN (tgt := 17) (by omega) (by omega) dX16_end_10 (by decide) rfl (fun hc10 => ?_) (fun hc10 => ?_)
  · refine ks_iconst (x := nI 0) dX16_end_17 (by decide) rfl ?_
    refine ks_iconst (x := nI 1) dX16_end_18 (by decide) rfl ?_
    omega
  · refine ks_iconst (x := nI 1) dX16_end_13 (by decide) rfl ?_
    refine ks_goto (tgt := 18) dX16_end_14 (by decide) ?_
    refine ks_iconst (x := nI 1) dX16_end_18 (by decide) rfl ?_
    refine ks_callV (n := 2) (M' := mX16_good) (c_md_good1 hO) hO cl_X16 rfl kx_2734 kx_2736 kxp_127 kx_30 kx_2737 (by decide +kernel) rfl (by decide) (Nat.le_of_ble_eq_true rfl) rfl dX16_end_19 rfl (fun z19 S19 y19 => ?_)
    obtain ⟨rfl, V19, J19, v19⟩ := y19
    refine ks_if_neN (tgt := 27) (by decide) dX16_end_22 (by decide) rfl (fun hc22 => ?_) (fun hc22 => ?_)
    · refine ks_aload_n dX16_end_27 rfl rfl ?_
      refine ks_iload_n dX16_end_28 rfl rfl ?_
      refine ks_putf (T := TX16) (kf := 110) kx_2478 rfl in_X16 tyX16_ok nmX16 cl_X16 (by decide) J19.2.1 (Nat.le_of_ble_eq_true rfl) rfl rfl rfl rfl dX16_end_29 rfl ?_
      refine md_put mdp_110 ?_
      refine ks_iload_n dX16_end_32 rfl rfl ?_
      refine ks_iret rfl dX16_end_33 ?_
      refine ⟨rfl, _, ⟨(J19.1.mono (by decide)).trans (ks_up_set _ _ (by decide)), ks_set_same _ _ _, fun z hz => (va_up_ne _ _ (fun h => hz (by rw [h]; decide))).trans (J19.2.2 z (fun h => hz (List.mem_cons_of_mem _ h)))⟩, (va_up_ne _ _ (by decide)).trans v19, ?_, g, (ks_set_ne _ _ (by decide)).trans (J19.1.at eT (by decide)), kg, ?_, ?_⟩
      · rw [va_up_self, List.length_take, Nat.min_eq_left hk]
      · rw [List.length_take]; omega
      · rw [List.length_take, Nat.min_eq_left hk, ← bytL_take g 0 hk, ← em]
    · exact absurd hc22 (by decide)
set_option maxRecDepth 100000 in
set_option maxHeartbeats 800000 in
theorem r_patch {l : Launch} {G : ks_G} {d : Nat} {S : ks_S} {V : Nat → Value} (hO : S.2.2 290 = some (rfE V)) {T : List Nat} (hB : buX S V 531 1600 110 T) {x v : Int32} (hx : ¬ (¬ x < 0 ∧ x < nI T.length)) : ks_P l G yX16_patch mX16_patch (d + 1) [.ref 290, .int x, .int v] S (fun z S' => z = some (.int (nI 0)) ∧ ∃ V', pbK [] [111] S S' V V' ∧ V' 111 = .int (nI 1)) := by
  obtain ⟨vT, g, eT, kg, hT, em⟩ := id hB
  refine ks_of (by decide) rfl rfl (Nat.le_of_ble_eq_true rfl) ?_
  show ks_X l G mX16_patch (d + 1) 0 [(0, .ref 290), (1, .int x), (2, .int v)] [] S _
  refine ks_aload_n dX16_patch_0 rfl rfl ?_
  refine ks_iload_n dX16_patch_1 rfl rfl ?_
  refine ks_if_lt (tgt := 17) dX16_patch_2 (by decide) rfl (fun hc2 => ?_) (fun hc2 => ?_)
  · refine ks_iconst (x := nI 0) dX16_patch_17 (by decide) rfl ?_
    refine ks_iconst (x := nI 1) dX16_patch_18 (by decide) rfl ?_
    refine ks_callV (n := 2) (M' := mX16_good) (c_md_good0 hO) hO cl_X16 rfl kx_2734 kx_2736 kxp_127 kx_30 kx_2737 (by decide +kernel) rfl (by decide) (Nat.le_of_ble_eq_true rfl) rfl dX16_patch_19 rfl (fun z19 S19 y19 => ?_)
    obtain ⟨rfl, V19, J19, v19⟩ := y19
    refine ks_if_neN (tgt := 27) (by decide) dX16_patch_22 (by decide) rfl (fun hc22 => ?_) (fun hc22 => ?_)
    · exact absurd hc22 (by decide)
    · refine ks_iconst (x := nI 0) dX16_patch_25 (by decide) rfl ?_
      refine ks_iret rfl dX16_patch_26 ?_
      exact ⟨rfl, _, J19, v19⟩
  · refine ks_iload_n dX16_patch_5 rfl rfl ?_
    refine ks_aload_n dX16_patch_6 rfl rfl ?_
    refine ks_getf (T := TX16) (kf := 110) kx_2478 rfl in_X16 cl_X16 (by decide) hO rfl dX16_patch_7 rfl ?_
    refine ks_tv vT ?_
    refine ks_icmp_ge (tgt := 17) dX16_patch_10 (by decide) rfl (fun hc10 => ?_) (fun hc10 => ?_)
    · refine ks_iconst (x := nI 0) dX16_patch_17 (by decide) rfl ?_
      refine ks_iconst (x := nI 1) dX16_patch_18 (by decide) rfl ?_
      refine ks_callV (n := 2) (M' := mX16_good) (c_md_good0 hO) hO cl_X16 rfl kx_2734 kx_2736 kxp_127 kx_30 kx_2737 (by decide +kernel) rfl (by decide) (Nat.le_of_ble_eq_true rfl) rfl dX16_patch_19 rfl (fun z19 S19 y19 => ?_)
      obtain ⟨rfl, V19, J19, v19⟩ := y19
      refine ks_if_neN (tgt := 27) (by decide) dX16_patch_22 (by decide) rfl (fun hc22 => ?_) (fun hc22 => ?_)
      · exact absurd hc22 (by decide)
      · refine ks_iconst (x := nI 0) dX16_patch_25 (by decide) rfl ?_
        refine ks_iret rfl dX16_patch_26 ?_
        exact ⟨rfl, _, J19, v19⟩
    · refine ks_iconst (x := nI 1) dX16_patch_13 (by decide) rfl ?_
      refine ks_goto (tgt := 18) dX16_patch_14 (by decide) ?_
      refine ks_iconst (x := nI 1) dX16_patch_18 (by decide) rfl ?_
      exact absurd ⟨hc2, Int32.not_le.mp hc10⟩ hx
set_option maxRecDepth 100000 in
set_option maxHeartbeats 800000 in
theorem c_mr_patch {l : Launch} {G : ks_G} {d : Nat} {S : ks_S} {V : Nat → Value} (hO : S.2.2 290 = some (rfE V)) {T : List Nat} (hB : buX S V 531 1600 110 T) {k : Nat} {v : Int32} (hk : k < T.length) : ks_P l G yX16_patch mX16_patch (d + 1) [.ref 290, .int (nI k), .int v] S (fun z S' => z = some (.int (nI (mg T k))) ∧ ∃ V', pbK [531] [111] S S' V V' ∧ V' 111 = .int (nI 0) ∧ buX S' V' 531 1600 110 (T.set k (ks_by v))) := by
  obtain ⟨vT, g, eT, kg, hT, em⟩ := id hB
  refine ks_of (by decide) rfl rfl (Nat.le_of_ble_eq_true rfl) ?_
  show ks_X l G mX16_patch (d + 1) 0 [(0, .ref 290), (1, .int (nI k)), (2, .int v)] [] S _
  refine ks_aload_n dX16_patch_0 rfl rfl ?_
  refine ks_iload_n dX16_patch_1 rfl rfl ?_
  refine ks_if_ltN (tgt := 17) (by omega) dX16_patch_2 (by decide) rfl ?_
  refine ks_iload_n dX16_patch_5 rfl rfl ?_
  refine ks_aload_n dX16_patch_6 rfl rfl ?_
  refine ks_getf (T := TX16) (kf := 110) kx_2478 rfl in_X16 cl_X16 (by decide) hO rfl dX16_patch_7 rfl ?_
  refine ks_tv vT ?_
  refine ks_icmp_geN (tgt := 17) (by omega) (by omega) dX16_patch_10 (by decide) rfl (fun hc10 => ?_) (fun hc10 => ?_)
  · refine ks_iconst (x := nI 0) dX16_patch_17 (by decide) rfl ?_
    refine ks_iconst (x := nI 1) dX16_patch_18 (by decide) rfl ?_
    omega
  · refine ks_iconst (x := nI 1) dX16_patch_13 (by decide) rfl ?_
    refine ks_goto (tgt := 18) dX16_patch_14 (by decide) ?_
    refine ks_iconst (x := nI 1) dX16_patch_18 (by decide) rfl ?_
    refine ks_callV (n := 2) (M' := mX16_good) (c_md_good1 hO) hO cl_X16 rfl kx_2734 kx_2736 kxp_127 kx_30 kx_2737 (by decide +kernel) rfl (by decide) (Nat.le_of_ble_eq_true rfl) rfl dX16_patch_19 rfl (fun z19 S19 y19 => ?_)
    obtain ⟨rfl, V19, J19, v19⟩ := y19
    refine ks_if_neN (tgt := 27) (by decide) dX16_patch_22 (by decide) rfl (fun hc22 => ?_) (fun hc22 => ?_)
    · refine ks_aload_n dX16_patch_27 rfl rfl ?_
      refine ks_getf (T := TX16) (kf := 109) kx_2477 rfl in_X16 cl_X16 (by decide) J19.2.1 rfl dX16_patch_28 rfl ?_
      refine ks_iload_n dX16_patch_31 rfl rfl ?_
      refine ks_baldB (i := k) (J19.1.at eT (by decide)) rfl (by omega) (by decide) dX16_patch_32 rfl ?_
      refine ks_sipush (x := nI 255) dX16_patch_33 (by decide) rfl ?_
      refine ks_andB (kg _) dX16_patch_36 rfl ?_
      have hy36 : g k < 256 := (kg _)
      refine ks_istore_n dX16_patch_37 (by decide) rfl ?_
      refine ks_sub [(3, _), (0, _), (1, _), (2, _)] rfl ?_
      refine ks_aload_n dX16_patch_38 rfl rfl ?_
      refine ks_getf (T := TX16) (kf := 109) kx_2477 rfl in_X16 cl_X16 (by decide) J19.2.1 rfl dX16_patch_39 rfl ?_
      refine ks_iload_n dX16_patch_42 rfl rfl ?_
      refine ks_iload_n dX16_patch_43 rfl rfl ?_
      refine ks_i2b dX16_patch_44 rfl ?_
      refine ks_bastB (i := k) (c := ks_by v) (J19.1.at eT (by decide)) rfl (by omega) (by decide) (ks_by_i8 _) dX16_patch_45 rfl ?_
      refine ks_iload_n dX16_patch_46 rfl rfl ?_
      refine ks_iret rfl dX16_patch_47 ?_
      refine ⟨by rw [bytL_mg em hk], V19, ⟨(J19.1.mono (by decide)).trans (ks_up_set _ _ (by decide)), (ks_set_ne _ _ (by decide)).trans J19.2.1, J19.2.2⟩, v19, ?_, va_up g k (ks_by v), ks_set_same _ _ _, kO_up kg (ks_by_lt _), ?_, ?_⟩
      · rw [List.length_set]; exact (J19.2.2 110 (by decide)).trans vT
      · rw [List.length_set]; exact hT
      · rw [List.length_set, bytL_set, ← em]
    · exact absurd hc22 (by decide)
set_option maxRecDepth 100000 in
set_option maxHeartbeats 800000 in
theorem c_md_is32 {l : Launch} {G : ks_G} {d : Nat} {S : ks_S} {v : Int64} : ks_P l G yX16_is32 mX16_is32 d [.long v] S (fun z S' => z = some (.int (ks_bo (!unL v))) ∧ S' = S) := by
  refine ks_of (by decide) rfl rfl (Nat.le_of_ble_eq_true rfl) ?_
  show ks_X l G mX16_is32 d 0 [(0, .long v)] [] S _
  refine ks_lload_n dX16_is32_0 rfl rfl ?_
  refine ks_lconst (x := lN 0) dX16_is32_1 (by decide) rfl ?_
  refine ks_lif_lt (tgt := 18) dX16_is32_2 rfl dX16_is32_3 (by decide) rfl (fun hc3 => ?_) (fun hc3 => ?_)
  · refine ks_iconst (x := nI 0) dX16_is32_18 (by decide) rfl ?_
    refine ks_zret rfl rfl dX16_is32_19 ?_
    refine ⟨?_, rfl⟩
    rw [show unL v = true from decide_eq_true (Or.inl hc3)]
    rfl
  · refine ks_lload_n dX16_is32_6 rfl rfl ?_
    refine ks_ldc2 dX16_is32_7 kx_1953 rfl ?_
    refine ks_tl (y := lN 4294967295) rfl ?_
    refine ks_lif_gt (tgt := 18) dX16_is32_10 rfl dX16_is32_11 (by decide) rfl (fun hc11 => ?_) (fun hc11 => ?_)
    · refine ks_iconst (x := nI 0) dX16_is32_18 (by decide) rfl ?_
      refine ks_zret rfl rfl dX16_is32_19 ?_
      refine ⟨?_, rfl⟩
      rw [show unL v = true from decide_eq_true (Or.inr hc11)]
      rfl
    · refine ks_iconst (x := nI 1) dX16_is32_14 (by decide) rfl ?_
      refine ks_goto (tgt := 19) dX16_is32_15 (by decide) ?_
      refine ks_zret rfl rfl dX16_is32_19 ?_
      refine ⟨?_, rfl⟩
      rw [show unL v = false from decide_eq_false (fun h => h.elim hc3 hc11)]
      rfl
set_option maxRecDepth 100000 in
set_option maxHeartbeats 800000 in
theorem r_word {l : Launch} {G : ks_G} {d : Nat} {S : ks_S} {V : Nat → Value} (hO : S.2.2 290 = some (rfE V)) {T : List Nat} (hB : buX S V 531 1600 110 T) {x : Int32} (hx : ¬ (¬ x < 0 ∧ x < nI T.length)) : ks_P l G yX16_word mX16_word (d + 1) [.ref 290, .int x] S (fun z S' => z = some (.long (lN 0)) ∧ ∃ V', pbK [] [111] S S' V V' ∧ V' 111 = .int (nI 1)) := by
  obtain ⟨vT, g, eT, kg, hT, em⟩ := id hB
  refine ks_of (by decide) rfl rfl (Nat.le_of_ble_eq_true rfl) ?_
  show ks_X l G mX16_word (d + 1) 0 [(0, .ref 290), (1, .int x)] [] S _
  refine ks_aload_n dX16_word_0 rfl rfl ?_
  refine ks_iload_n dX16_word_1 rfl rfl ?_
  refine ks_if_lt (tgt := 17) dX16_word_2 (by decide) rfl (fun hc2 => ?_) (fun hc2 => ?_)
  · refine ks_iconst (x := nI 0) dX16_word_17 (by decide) rfl ?_
    refine ks_iconst (x := nI 1) dX16_word_18 (by decide) rfl ?_
    refine ks_callV (n := 2) (M' := mX16_good) (c_md_good0 hO) hO cl_X16 rfl kx_2734 kx_2736 kxp_127 kx_30 kx_2737 (by decide +kernel) rfl (by decide) (Nat.le_of_ble_eq_true rfl) rfl dX16_word_19 rfl (fun z19 S19 y19 => ?_)
    obtain ⟨rfl, V19, J19, v19⟩ := y19
    refine ks_if_neN (tgt := 27) (by decide) dX16_word_22 (by decide) rfl (fun hc22 => ?_) (fun hc22 => ?_)
    · exact absurd hc22 (by decide)
    · refine ks_lconst (x := lN 0) dX16_word_25 (by decide) rfl ?_
      refine ks_lret rfl dX16_word_26 ?_
      exact ⟨rfl, _, J19, v19⟩
  · refine ks_iload_n dX16_word_5 rfl rfl ?_
    refine ks_aload_n dX16_word_6 rfl rfl ?_
    refine ks_getf (T := TX16) (kf := 110) kx_2478 rfl in_X16 cl_X16 (by decide) hO rfl dX16_word_7 rfl ?_
    refine ks_tv vT ?_
    refine ks_icmp_ge (tgt := 17) dX16_word_10 (by decide) rfl (fun hc10 => ?_) (fun hc10 => ?_)
    · refine ks_iconst (x := nI 0) dX16_word_17 (by decide) rfl ?_
      refine ks_iconst (x := nI 1) dX16_word_18 (by decide) rfl ?_
      refine ks_callV (n := 2) (M' := mX16_good) (c_md_good0 hO) hO cl_X16 rfl kx_2734 kx_2736 kxp_127 kx_30 kx_2737 (by decide +kernel) rfl (by decide) (Nat.le_of_ble_eq_true rfl) rfl dX16_word_19 rfl (fun z19 S19 y19 => ?_)
      obtain ⟨rfl, V19, J19, v19⟩ := y19
      refine ks_if_neN (tgt := 27) (by decide) dX16_word_22 (by decide) rfl (fun hc22 => ?_) (fun hc22 => ?_)
      · exact absurd hc22 (by decide)
      · refine ks_lconst (x := lN 0) dX16_word_25 (by decide) rfl ?_
        refine ks_lret rfl dX16_word_26 ?_
        exact ⟨rfl, _, J19, v19⟩
    · refine ks_iconst (x := nI 1) dX16_word_13 (by decide) rfl ?_
      refine ks_goto (tgt := 18) dX16_word_14 (by decide) ?_
      refine ks_iconst (x := nI 1) dX16_word_18 (by decide) rfl ?_
      exact absurd ⟨hc2, Int32.not_le.mp hc10⟩ hx
theorem kb_l255 {g : Nat → Nat} {i : Nat} (h : g i < 256) : (kb g i).toInt64 &&& lN 255 = lN (g i) := by
  have e : ∀ q, q < 256 → ((kb (fun _ => q) 0).toInt64 &&& lN 255 = lN q) := by decide +kernel
  exact e (g i) h
set_option maxRecDepth 100000 in
set_option maxHeartbeats 800000 in
theorem l_mrWord {l : Launch} {G : ks_G} {d : Nat} {S : ks_S} {V : Nat → Value} (hO : S.2.2 290 = some (rfE V)) {T : List Nat} (hB : buX S V 531 1600 110 T) {k : Nat} (hk : k < T.length) {P9 : Option Value → ks_S → Prop} (hk9 : P9 (some (.long (lN (wdN T k 8)))) S) : ∀ (u i : Nat), i + u = 8 → wdN T k i < 2 ^ (8 * i) → ks_X l G mX16_word d 32 [(0, .ref 290), (1, .int (nI k)), (2, .long (lN (wdN T k i))), (4, .int (nI (k + i)))] [] S P9 := by
  obtain ⟨vT, g, eT, kg, hT, em⟩ := id hB
  intro u
  induction u with
  | zero =>
    intro i hi hb
    obtain rfl : i = 8 := hi
    refine ks_iload dX16_word_32 rfl rfl ?_
    refine ks_iload_n dX16_word_34 rfl rfl ?_
    refine ks_bipush (x := nI 8) dX16_word_35 (by decide) rfl ?_
    refine ks_addN dX16_word_37 rfl ?_
    refine ks_icmp_geN (tgt := 78) (by omega) (by omega) dX16_word_38 (by decide) rfl (fun h1 => ?_) (fun h1 => absurd h1 (by omega))
    refine ks_lload_n dX16_word_78 rfl rfl ?_
    refine ks_lret rfl dX16_word_79 ?_
    exact hk9
  | succ u ih =>
    intro i hi hb
    have hi8 : i < 8 := by omega
    have hb2 : wdN T k i * 2 ^ 8 < 2 ^ 64 := by
      have : 2 ^ (8 * i) ≤ 2 ^ 56 := Nat.pow_le_pow_right (by decide) (by omega)
      omega
    refine ks_iload dX16_word_32 rfl rfl ?_
    refine ks_iload_n dX16_word_34 rfl rfl ?_
    refine ks_bipush (x := nI 8) dX16_word_35 (by decide) rfl ?_
    refine ks_addN dX16_word_37 rfl ?_
    refine ks_icmp_geN (tgt := 78) (by omega) (by omega) dX16_word_38 (by decide) rfl (fun h1 => absurd h1 (by omega)) (fun h1 => ?_)
    refine ks_lload_n dX16_word_41 rfl rfl ?_
    refine ks_bipush (x := nI 8) dX16_word_42 (by decide) rfl ?_
    refine ks_lshlN (k := 8) (by decide) dX16_word_44 rfl ?_
    refine ks_iload dX16_word_45 rfl rfl ?_
    refine ks_aload_n dX16_word_47 rfl rfl ?_
    refine ks_getf (T := TX16) (kf := 110) kx_2478 rfl in_X16 cl_X16 (by decide) hO rfl dX16_word_48 rfl ?_
    refine ks_tv vT ?_
    refine ks_icmp_geN (tgt := 69) (by omega) (by omega) dX16_word_51 (by decide) rfl (fun h2 => ?_) (fun h2 => ?_)
    · refine ks_lconst (x := lN 0) dX16_word_69 (by decide) rfl ?_
      refine ks_lorN (a := (wdN T k i)) (k := 8) (p := 2 ^ 8) rfl (by decide) (by omega) dX16_word_70 rfl ?_
      refine ks_lstore_n dX16_word_71 (by decide) rfl ?_
      refine ks_sub [(2, _), (0, _), (1, _), (4, _)] rfl ?_
      refine ks_incN (c := 1) (e := k + i + 1) dX16_word_72 rfl (by decide) rfl (by decide) rfl ?_
      refine ks_sub [(4, _), (0, _), (1, _), (2, _)] rfl ?_
      refine ks_goto (tgt := 32) dX16_word_75 (by decide) ?_
      have hwd : wdN T k (i + 1) = wdN T k i * 2 ^ 8 + 0 := by
        show wdN T k i * 2 ^ 8 + mg T (k + i) = _
        rw [mg_out (by omega)]
      have hb3 : wdN T k (i + 1) < 2 ^ (8 * (i + 1)) := by
        rw [hwd, show 8 * (i + 1) = 8 * i + 8 by omega, Nat.pow_add]
        omega
      rw [← hwd]
      exact ks_sub [(0, _), (1, _), (2, _), (4, _)] rfl (ih (i + 1) (by omega) hb3)
    · have hg9 := kg (k + i)
      refine ks_aload_n dX16_word_54 rfl rfl ?_
      refine ks_getf (T := TX16) (kf := 109) kx_2477 rfl in_X16 cl_X16 (by decide) hO rfl dX16_word_55 rfl ?_
      refine ks_iload dX16_word_58 rfl rfl ?_
      refine ks_baldB (i := k + i) eT rfl (by omega) (by decide) dX16_word_60 rfl ?_
      refine ks_i2l dX16_word_61 rfl ?_
      refine ks_ldc2 dX16_word_62 kx_2872 rfl ?_
      refine ks_tl (y := lN 255) rfl ?_
      refine ks_land dX16_word_65 rfl ?_
      refine ks_goto (tgt := 70) dX16_word_66 (by decide) ?_
      refine ks_tl (y := lN (g (k + i))) (kb_l255 (kg _)) ?_
      refine ks_lorN (a := (wdN T k i)) (k := 8) (p := 2 ^ 8) rfl (by omega) (by omega) dX16_word_70 rfl ?_
      refine ks_lstore_n dX16_word_71 (by decide) rfl ?_
      refine ks_sub [(2, _), (0, _), (1, _), (4, _)] rfl ?_
      refine ks_incN (c := 1) (e := k + i + 1) dX16_word_72 rfl (by decide) rfl (by decide) rfl ?_
      refine ks_sub [(4, _), (0, _), (1, _), (2, _)] rfl ?_
      refine ks_goto (tgt := 32) dX16_word_75 (by decide) ?_
      have hwd : wdN T k (i + 1) = wdN T k i * 2 ^ 8 + (g (k + i)) := by
        show wdN T k i * 2 ^ 8 + mg T (k + i) = _
        rw [bytL_mg em (by omega)]
      have hb3 : wdN T k (i + 1) < 2 ^ (8 * (i + 1)) := by
        rw [hwd, show 8 * (i + 1) = 8 * i + 8 by omega, Nat.pow_add]
        omega
      rw [← hwd]
      exact ks_sub [(0, _), (1, _), (2, _), (4, _)] rfl (ih (i + 1) (by omega) hb3)
set_option maxRecDepth 100000 in
set_option maxHeartbeats 800000 in
theorem c_mr_word {l : Launch} {G : ks_G} {d : Nat} {S : ks_S} {V : Nat → Value} (hO : S.2.2 290 = some (rfE V)) {T : List Nat} (hB : buX S V 531 1600 110 T) {k : Nat} (hk : k < T.length) : ks_P l G yX16_word mX16_word (d + 1) [.ref 290, .int (nI k)] S (fun z S' => z = some (.long (lN (wdN T k 8))) ∧ ∃ V', pbK [] [111] S S' V V' ∧ V' 111 = .int (nI 0)) := by
  obtain ⟨vT, g, eT, kg, hT, em⟩ := id hB
  refine ks_of (by decide) rfl rfl (Nat.le_of_ble_eq_true rfl) ?_
  show ks_X l G mX16_word (d + 1) 0 [(0, .ref 290), (1, .int (nI k))] [] S _
  refine ks_aload_n dX16_word_0 rfl rfl ?_
  refine ks_iload_n dX16_word_1 rfl rfl ?_
  refine ks_if_ltN (tgt := 17) (by omega) dX16_word_2 (by decide) rfl ?_
  refine ks_iload_n dX16_word_5 rfl rfl ?_
  refine ks_aload_n dX16_word_6 rfl rfl ?_
  refine ks_getf (T := TX16) (kf := 110) kx_2478 rfl in_X16 cl_X16 (by decide) hO rfl dX16_word_7 rfl ?_
  refine ks_tv vT ?_
  refine ks_icmp_geN (tgt := 17) (by omega) (by omega) dX16_word_10 (by decide) rfl (fun hc10 => ?_) (fun hc10 => ?_)
  · refine ks_iconst (x := nI 0) dX16_word_17 (by decide) rfl ?_
    refine ks_iconst (x := nI 1) dX16_word_18 (by decide) rfl ?_
    omega
  · refine ks_iconst (x := nI 1) dX16_word_13 (by decide) rfl ?_
    refine ks_goto (tgt := 18) dX16_word_14 (by decide) ?_
    refine ks_iconst (x := nI 1) dX16_word_18 (by decide) rfl ?_
    refine ks_callV (n := 2) (M' := mX16_good) (c_md_good1 hO) hO cl_X16 rfl kx_2734 kx_2736 kxp_127 kx_30 kx_2737 (by decide +kernel) rfl (by decide) (Nat.le_of_ble_eq_true rfl) rfl dX16_word_19 rfl (fun z19 S19 y19 => ?_)
    obtain ⟨rfl, V19, J19, v19⟩ := y19
    refine ks_if_neN (tgt := 27) (by decide) dX16_word_22 (by decide) rfl (fun hc22 => ?_) (fun hc22 => ?_)
    · refine ks_lconst (x := lN 0) dX16_word_27 (by decide) rfl ?_
      refine ks_lstore_n dX16_word_28 (by decide) rfl ?_
      refine ks_sub [(2, _), (0, _), (1, _)] rfl ?_
      refine ks_iload_n dX16_word_29 rfl rfl ?_
      refine ks_istore dX16_word_30 (by decide) rfl ?_
      refine ks_sub [(4, _), (0, _), (1, _), (2, _)] rfl ?_
      exact ks_sub [(0, _), (1, _), (2, _), (4, .int (nI (k + 0)))] rfl (l_mrWord J19.2.1 (J19.bu hB (by decide) (by decide)) hk ⟨rfl, _, J19, v19⟩ 8 0 rfl (show (0 : Nat) < 1 by decide))
    · exact absurd hc22 (by decide)
