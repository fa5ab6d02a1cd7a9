/-! THE REFERENCE: several, locked -/
abbrev LMg : List Nat := [80, 82, 40, 41, 63, 67, 70, 74, 87, 88, 89, 91]
def mqJ (S S' : ks_S) (V V' : Nat → Value) (F F' : Nat) : Prop := sfK LMr S S' F F' ∧ ∀ k, k ∉ LMg → V' k = V k
theorem mqJ.trans {S S1 S2 : ks_S} {V V1 V2 : Nat → Value} {F F1 F2 : Nat} (h : mqJ S S1 V V1 F F1) (k : mqJ S1 S2 V1 V2 F1 F2) : mqJ S S2 V V2 F F2 := ⟨h.1.trans k.1, fun j a => (k.2 j a).trans (h.2 j a)⟩
theorem mqJ.rf (S : ks_S) (V : Nat → Value) (F : Nat) : mqJ S S V V F F := ⟨sfK.rf _ _ _, fun _ _ => rfl⟩
theorem mqK.j {S S1 : ks_S} {V V1 : Nat → Value} {F F1 : Nat} (h : mqK S S1 V V1 F F1) : mqJ S S1 V V1 F F1 := ⟨h.1, fun j a => h.2 j (fun q => a (List.mem_cons_of_mem _ (List.mem_cons_of_mem _ q)))⟩
theorem mqJ.put {S S1 : ks_S} {V V1 : Nat → Value} {F F1 j : Nat} {v : Value} (h : mqJ S S1 V V1 F F1) (hj : j ∈ LMg) : mqJ S (ks_set S1 290 (rfE (va_up V1 j v))) V (va_up V1 j v) F F1 := ⟨h.1.trans (sfK.of (ks_up_set _ _ (by decide))), fun k hk => (va_up_ne _ _ (fun q => hk (by rw [q]; exact hj))).trans (h.2 k hk)⟩
/-- what an operation leaves, the code's beginning and the count among it -/
def mqA (S S' : ks_S) (V : Nat → Value) (F : Nat) (r : Option (List (List Nat) × List (List Nat))) (vs : Vs) (Gp : Pt) (P y N : Nat) (G9 : Nat → Nat) (L t b k p m u e inp : Nat) (pb ops : Nat) : Prop := ∃ V' F' xs' ys', mqJ S S' V V' F F' ∧ mqS S' V' F' xs' ys' vs Gp P y N G9 L t b k p m u e inp ∧ ((V' 74 = .int (ks_bo false) ∧ r = some (xs', ys') ∧ V' 80 = .int (nI pb) ∧ V' 82 = .int (nI ops)) ∨ (V' 74 = .int (ks_bo true) ∧ ∀ q, r = some q → 1000 < q.1.length + q.2.length))
theorem mqR.A {S S1 : ks_S} {V : Nat → Value} {F pb ops : Nat} {vs : Vs} {Gp : Pt} {P y N L t b k p m u e inp : Nat} {G9 : Nat → Nat} {r : Option (List (List Nat) × List (List Nat))} (h : mqR S S1 V F r vs Gp P y N G9 L t b k p m u e inp) (h80 : V 80 = .int (nI pb)) (h82 : V 82 = .int (nI ops)) : mqA S S1 V F r vs Gp P y N G9 L t b k p m u e inp pb ops := by
  obtain ⟨V', F', xs', ys', h1, h2, h3⟩ := h
  refine ⟨V', F', xs', ys', h1.j, h2, ?_⟩
  rcases h3 with ⟨a, b⟩ | h3
  · exact .inl ⟨a, b, (h1.2 _ (by decide)).trans h80, (h1.2 _ (by decide)).trans h82⟩
  · exact .inr h3
theorem mqA.after {S S1 S2 : ks_S} {V V1 : Nat → Value} {F F1 pb ops : Nat} {vs : Vs} {Gp : Pt} {P y N L t b k p m u e inp : Nat} {G9 : Nat → Nat} {r : Option (List (List Nat) × List (List Nat))} (hk : mqJ S S1 V V1 F F1) (h : mqA S1 S2 V1 F1 r vs Gp P y N G9 L t b k p m u e inp pb ops) : mqA S S2 V F r vs Gp P y N G9 L t b k p m u e inp pb ops := by
  obtain ⟨V', F', xs', ys', h1, h2, h3⟩ := h
  exact ⟨V', F', xs', ys', hk.trans h1, h2, h3⟩
theorem mqA.bad {S S1 : ks_S} {V V1 : Nat → Value} {F F1 pb ops : Nat} {xs ys : List (List Nat)} {vs : Vs} {Gp : Pt} {P y N L t b k p m u e inp : Nat} {G9 : Nat → Nat} {r : Option (List (List Nat) × List (List Nat))} (hk : mqJ S S1 V V1 F F1) (h : mqS S1 V1 F1 xs ys vs Gp P y N G9 L t b k p m u e inp) (h74 : V1 74 = .int (ks_bo true)) (hr : r = none) : mqA S S1 V F r vs Gp P y N G9 L t b k p m u e inp pb ops := ⟨V1, F1, xs, ys, hk, h, .inr ⟨h74, fun q hq => by rw [hr] at hq; cases hq⟩⟩
/-- the object alone changes -/
theorem mqS.obj {S S1 : ks_S} {V : Nat → Value} {F : Nat} {xs ys : List (List Nat)} {vs : Vs} {Gp : Pt} {P y N L t b k p m u e inp : Nat} {G9 : Nat → Nat} {V1 : Nat → Value} (h : mqS S V F xs ys vs Gp P y N G9 L t b k p m u e inp) (hT9 : mqT P y N G9 k u e inp) (hu : ks_up S S1 [290]) (o1 : S1.2.2 290 = some (rfE V1)) (hv : ∀ j ∈ ([67, 70, 73, 76, 77, 78, 87, 88, 89, 91] : List Nat), V1 j = V j) : mqS S1 V1 F xs ys vs Gp P y N G9 L t b k p m u e inp := by
  have hO := h.1
  have hK := h.2.1
  obtain ⟨dn, h8⟩ := h.2.2.2.2.2.2
  refine h.bc hT9 (sfK.of (hu.mono (by decide))) o1 (fun j hj => hv j (by rcases hj with rfl | rfl | rfl | rfl | rfl | rfl | rfl <;> decide)) ((hK.up hu (by decide) (fun x hx => ?_)).val ⟨hv _ (by decide), hv _ (by decide), hv _ (by decide)⟩) ⟨dn, hu.at h8 (by decide)⟩
  rw [List.mem_singleton] at hx
  subst hx
  exact ⟨_, hO, fun g h => by cases h⟩
theorem mqS.put {S : ks_S} {V : Nat → Value} {F : Nat} {xs ys : List (List Nat)} {vs : Vs} {Gp : Pt} {P y N L t b k p m u e inp : Nat} {G9 : Nat → Nat} {j : Nat} {v : Value} (h : mqS S V F xs ys vs Gp P y N G9 L t b k p m u e inp) (hT9 : mqT P y N G9 k u e inp) (hj : j ∉ ([67, 70, 73, 76, 77, 78, 87, 88, 89, 91] : List Nat)) : mqS (ks_set S 290 (rfE (va_up V j v))) (va_up V j v) F xs ys vs Gp P y N G9 L t b k p m u e inp := h.obj hT9 (ks_up_set _ _ (by decide)) (ks_set_same _ _ _) (fun i hi => va_up_ne _ _ (fun q => hj (by rw [← q]; exact hi)))
theorem gmS_k {xs : List (List Nat)} {ops kq : Nat} (h0 : 0 < xs.length ∧ (xs.getD 0 []).length ≤ 4) (hk : numV (xs.getD 0 []) = (kq : Int)) (h20 : kq ≤ 20) : gmS xs ops = if ops + kq ≤ 201 ∧ kq + 1 < xs.length ∧ (xs.getD (kq + 1) []).length ≤ 4 then (if 0 ≤ numV (xs.getD (kq + 1) []) ∧ numV (xs.getD (kq + 1) []) ≤ (kq : Int) ∧ kq + (numV (xs.getD (kq + 1) [])).toNat + 3 ≤ xs.length then some (kq, (numV (xs.getD (kq + 1) [])).toNat) else none) else none := by
  unfold gmS
  rw [if_pos h0, hk, if_pos ⟨by omega, by omega⟩, Int.toNat_natCast]
theorem ak_none {GD : List Nat → List Nat → List Nat → Bool} {op ops : Nat} {xs ys : List (List Nat)} {c : List Nat} (h : 174 ≤ op) (hg : gmS xs ops = none) : akS GD op xs ys ops c = none := by
  unfold akS
  rw [if_neg (by omega), hg]
theorem ak_some {GD : List Nat → List Nat → List Nat → Bool} {op ops kq mq : Nat} {xs ys : List (List Nat)} {c : List Nat} (h : 174 ≤ op) (hg : gmS xs ops = some (kq, mq)) : akS GD op xs ys ops c = akB op (xs.drop (kq + mq + 3)) ys (askS (GD (cln_ ((xs.drop (kq + 2)).take mq) c)) ((xs.drop 1).take kq) ((xs.drop (kq + 2)).take mq)) ∧ akO op xs ops = ops + kq := by
  unfold akS akO
  rw [if_neg (by omega), if_neg (by omega), hg]
  exact ⟨rfl, rfl⟩
set_option maxRecDepth 100000 in
set_option maxHeartbeats 1600000 in
theorem c_rs_several {l : Launch} {G : ks_G} {d : Nat} {S : ks_S} {V : Nat → Value} {F : Nat} {xs ys : List (List Nat)} {vs : Vs} {Gp : Pt} {P y N L t b k p m u e inp : Nat} {G9 : Nat → Nat} (hM : mqS S V F xs ys vs Gp P y N G9 L t b k p m u e inp) (hT9 : mqT P y N G9 k u e inp) {cy Nc pb pe : Nat} {gc : Nat → Nat} (v79 : V 79 = .ref cy) (v80 : V 80 = .int (nI pb)) (v81 : V 81 = .int (nI pe)) (hcd : cdQ S cy Nc pe gc) (hck : cdK vs cy Nc pe gc) (hb9 : pb ≤ pe ∧ pe - pb ≤ 1600) {op ops : Nat} (hl : xs.length ≤ 1000) (hop : op = 174 ∨ op = 175) (v74 : V 74 = .int (ks_bo false)) (v82 : V 82 = .int (nI ops)) (hops : ops ≤ 201) : ks_P l G yX16_several mX16_several (d + 8) [.ref 290, .int (nI op)] S (fun z S' => z = none ∧ mqA S S' V F (akS (gdF Gp G9 L b k p m u e inp) op xs ys ops (bytL gc pb (pe - pb))) vs Gp P y N G9 L t b k p m u e inp pb (akO op xs ops)) := by
  obtain ⟨hO, hK, hG, hh, h369, hlow, h368⟩ := id hM
  have hxb : ∀ j, j < xs.length → ∀ b ∈ xs.getD j [], b < 256 := fun j hj => by
    obtain ⟨_, _, _, _, h9, _⟩ := hK
    exact rsK_b h9 hj
  refine ks_of (by decide) rfl rfl (Nat.le_of_ble_eq_true rfl) ?_
  show ks_X l G mX16_several (d + 8) 0 [(0, .ref 290), (1, .int (nI op))] [] S _
  refine ks_aload_n dX16_several_0 rfl rfl ?_
  refine ks_iconst (x := nI 1) dX16_several_1 (by decide) rfl ?_
  refine ks_callV (n := 1) (M' := mX16_need) (c_rs_need (d := d + 7) hO hK (n := 1) (by decide)) hO cl_X16 rfl kx_2165 kx_2167 kxp_87 kx_30 kx_2168 (by decide +kernel) rfl (by decide) (Nat.le_of_ble_eq_true rfl) rfl dX16_several_2 rfl (fun z1 S1 y1 => ?_)
  obtain ⟨rfl, y1a, y1b⟩ := y1
  by_cases c0 : 1 ≤ xs.length
  · obtain rfl := (y1a c0).symm
    rw [decide_eq_true c0]
    refine ks_if_neZ (tgt := 9) dX16_several_5 (by decide) rfl (fun h2 => ?_) (fun h2 => ?_)
    · refine ks_aload_n dX16_several_9 rfl rfl ?_
      refine ks_iconst (x := nI 0) dX16_several_10 (by decide) rfl ?_
      refine ks_iconst (x := nI 4) dX16_several_11 (by decide) rfl ?_
      refine ks_callV (n := 2) (M' := mX16_numberAt) (c_rs_numberAt (d := d + 7) hO hK (k := 0) (mo := 4) (by omega) (by decide)) hO cl_X16 rfl kx_2196 kx_2198 kxp_94 kx_30 kx_2199 (by decide +kernel) rfl (by decide) (Nat.le_of_ble_eq_true rfl) rfl dX16_several_12 rfl (fun z2 S2 y2 => ?_)
      obtain ⟨rfl, y2a, y2b⟩ := y2
      by_cases c1 : (xs.getD 0 []).length ≤ 4
      · obtain rfl := (y2a c1).symm
        rw [if_pos c1]
        have nb0 := numV_b4 c1 (hxb 0 (by omega))
        obtain ⟨n0, en0⟩ : ∃ n, n = numV (xs.getD 0 []) := ⟨_, rfl⟩
        rw [← en0] at nb0 ⊢
        refine ks_lstore_n dX16_several_15 (by decide) rfl ?_
        refine ks_sub [(2, _), (0, _), (1, _)] rfl ?_
        refine ks_aload_n dX16_several_16 rfl rfl ?_
        refine ks_getf (T := TX16) (kf := 74) kx_2442 rfl in_X16 cl_X16 (by decide) hO rfl dX16_several_17 rfl ?_
        refine ks_tv v74 ?_
        refine ks_if_neZ (tgt := 37) dX16_several_20 (by decide) rfl (fun h3 => ?_) (fun h3 => ?_)
        · exact absurd h3 (by decide)
        · refine ks_lload_n dX16_several_23 rfl rfl ?_
          refine ks_lconst (x := lN 0) dX16_several_24 (by decide) rfl ?_
          refine ks_lif_lt (tgt := 37) dX16_several_25 rfl dX16_several_26 (by decide) rfl (fun h4 => ?_) (fun h4 => ?_)
          · have p0 : n0 < 0 := (iL_lt (a := n0) (b := 0) (by omega) (by omega) (by omega) (by omega)).mp h4
            refine ks_aload_n dX16_several_37 rfl rfl ?_
            refine ks_iconst (x := nI 1) dX16_several_38 (by decide) rfl ?_
            refine ks_putf (T := TX16) (kf := 74) kx_2442 rfl in_X16 tyX16_ok nmX16 cl_X16 (by decide) hO (Nat.le_of_ble_eq_true rfl) rfl rfl rfl rfl dX16_several_39 rfl ?_
            refine md_put mdp_74 ?_
            refine ks_ret rfl dX16_several_42 ?_
            exact ⟨rfl, mqA.bad ((mqJ.rf S V F).put (by decide)) (hM.put hT9 (by decide)) (va_up_self _ _ _) (ak_none (by omega) (by
              unfold gmS
              rw [if_pos ⟨by omega, c1⟩, if_neg (fun h => by rw [← en0] at h; omega)]))⟩
          · have p0 : ¬ n0 < 0 := fun h => h4 ((iL_lt (a := n0) (b := 0) (by omega) (by omega) (by omega) (by omega)).mpr h)
            refine ks_lload_n dX16_several_29 rfl rfl ?_
            refine ks_ldc2 dX16_several_30 kx_2334 rfl ?_
            refine ks_tl (y := lN 20) rfl ?_
            refine ks_lif_le (tgt := 43) dX16_several_33 rfl dX16_several_34 (by decide) rfl (fun h5 => ?_) (fun h5 => ?_)
            · have p1 : n0 ≤ 20 := (iL_le (a := n0) (b := 20) (by omega) (by omega) (by omega) (by omega)).mp h5
              obtain ⟨kq, rfl⟩ : ∃ kq : Nat, n0 = kq := ⟨n0.toNat, by omega⟩
              have gk := gmS_k (ops := ops) ⟨c0, c1⟩ en0.symm (by omega)
              refine ks_sub [(0, .ref 290), (1, .int (nI op)), (2, .long (lN kq))] rfl ?_
              refine ks_aload_n dX16_several_43 rfl rfl ?_
              refine ks_dup dX16_several_44 rfl rfl ?_
              refine ks_getf (T := TX16) (kf := 82) kx_2450 rfl in_X16 cl_X16 (by decide) hO rfl dX16_several_45 rfl ?_
              refine ks_tv v82 ?_
              refine ks_lload_n dX16_several_48 rfl rfl ?_
              refine ks_l2iN dX16_several_49 rfl ?_
              refine ks_addN dX16_several_50 rfl ?_
              refine ks_putf (T := TX16) (kf := 82) kx_2450 rfl in_X16 tyX16_ok nmX16 cl_X16 (by decide) hO (Nat.le_of_ble_eq_true rfl) rfl rfl rfl rfl dX16_several_51 rfl ?_
              refine md_put mdp_82 ?_
              refine ks_aload_n dX16_several_54 rfl rfl ?_
              refine ks_getf (T := TX16) (kf := 82) kx_2450 rfl in_X16 cl_X16 (by decide) (ks_set_same _ _ _) rfl dX16_several_55 rfl ?_
              refine ks_tv (va_up_self _ _ _) ?_
              refine ks_sipush (x := nI 201) dX16_several_58 (by decide) rfl ?_
              refine ks_icmp_gtN (tgt := 75) (by omega) (by decide) dX16_several_61 (by decide) rfl (fun h6 => ?_) (fun h6 => ?_)
              · have M3 := hM.put hT9 (j := 82) (v := .int (nI (ops + kq))) (by decide)
                have J3 := (mqJ.rf S V F).put (j := 82) (v := .int (nI (ops + kq))) (by decide)
                refine ks_aload_n dX16_several_75 rfl rfl ?_
                refine ks_iconst (x := nI 1) dX16_several_76 (by decide) rfl ?_
                refine ks_putf (T := TX16) (kf := 74) kx_2442 rfl in_X16 tyX16_ok nmX16 cl_X16 (by decide) (ks_set_same _ _ _) (Nat.le_of_ble_eq_true rfl) rfl rfl rfl rfl dX16_several_77 rfl ?_
                refine md_put mdp_74 ?_
                refine ks_ret rfl dX16_several_80 ?_
                exact ⟨rfl, mqA.bad (J3.put (by decide)) (M3.put hT9 (by decide)) (va_up_self _ _ _) (ak_none (by omega) (by
                  rw [gk, if_neg (fun h => by omega)]))⟩
              · have M3 := hM.put hT9 (j := 82) (v := .int (nI (ops + kq))) (by decide)
                have J3 := (mqJ.rf S V F).put (j := 82) (v := .int (nI (ops + kq))) (by decide)
                refine ks_aload_n dX16_several_64 rfl rfl ?_
                refine ks_lload_n dX16_several_65 rfl rfl ?_
                refine ks_l2iN dX16_several_66 rfl ?_
                refine ks_iconst (x := nI 2) dX16_several_67 (by decide) rfl ?_
                refine ks_addN dX16_several_68 rfl ?_
                refine ks_callV (n := 1) (M' := mX16_need) (c_rs_need (d := d + 7) M3.1 M3.2.1 (n := kq + 2) (by omega)) (ks_set_same _ _ _) cl_X16 rfl kx_2165 kx_2167 kxp_87 kx_30 kx_2168 (by decide +kernel) rfl (by decide) (Nat.le_of_ble_eq_true rfl) rfl dX16_several_69 rfl (fun z4 S4 y4 => ?_)
                obtain ⟨rfl, y4a, y4b⟩ := y4
                by_cases c2 : kq + 2 ≤ xs.length
                · obtain rfl := (y4a c2).symm
                  rw [decide_eq_true c2]
                  refine ks_if_neZ (tgt := 81) dX16_several_72 (by decide) rfl (fun h7 => ?_) (fun h7 => ?_)
                  · refine ks_aload_n dX16_several_81 rfl rfl ?_
                    refine ks_lload_n dX16_several_82 rfl rfl ?_
                    refine ks_l2iN dX16_several_83 rfl ?_
                    refine ks_iconst (x := nI 1) dX16_several_84 (by decide) rfl ?_
                    refine ks_addN dX16_several_85 rfl ?_
                    refine ks_iconst (x := nI 4) dX16_several_86 (by decide) rfl ?_
                    refine ks_callV (n := 2) (M' := mX16_numberAt) (c_rs_numberAt (d := d + 7) M3.1 M3.2.1 (k := kq + 1) (mo := 4) (by omega) (by decide)) M3.1 cl_X16 rfl kx_2196 kx_2198 kxp_94 kx_30 kx_2199 (by decide +kernel) rfl (by decide) (Nat.le_of_ble_eq_true rfl) rfl dX16_several_87 rfl (fun z5 S5 y5 => ?_)
                    obtain ⟨rfl, y5a, y5b⟩ := y5
                    by_cases c3 : (xs.getD (kq + 1) []).length ≤ 4
                    · obtain rfl := (y5a c3).symm
                      rw [if_pos c3]
                      have nb1 := numV_b4 c3 (hxb (kq + 1) (by omega))
                      obtain ⟨n1, en1⟩ : ∃ n, n = numV (xs.getD (kq + 1) []) := ⟨_, rfl⟩
                      rw [← en1] at nb1 ⊢
                      rw [if_pos ⟨by omega, by omega, c3⟩, ← en1] at gk
                      have v743 : va_up V 82 (.int (nI (ops + kq))) 74 = .int (ks_bo false) := (va_up_ne _ _ (by decide)).trans v74
                      have v673 := M3.2.1.v67.1
                      refine ks_lstore dX16_several_90 (by decide) rfl ?_
                      refine ks_sub [(4, _), (0, _), (1, _), (2, _)] rfl ?_
                      refine ks_aload_n dX16_several_92 rfl rfl ?_
                      refine ks_getf (T := TX16) (kf := 74) kx_2442 rfl in_X16 cl_X16 (by decide) M3.1 rfl dX16_several_93 rfl ?_
                      refine ks_tv v743 ?_
                      refine ks_if_neZ (tgt := 127) dX16_several_96 (by decide) rfl (fun h8 => ?_) (fun h8 => ?_)
                      · exact absurd h8 (by decide)
                      · refine ks_lload dX16_several_99 rfl rfl ?_
                        refine ks_lconst (x := lN 0) dX16_several_101 (by decide) rfl ?_
                        refine ks_lif_lt (tgt := 127) dX16_several_102 rfl dX16_several_103 (by decide) rfl (fun h9 => ?_) (fun h9 => ?_)
                        · have q0 : n1 < 0 := (iL_lt (a := n1) (b := 0) (by omega) (by omega) (by omega) (by omega)).mp h9
                          refine ks_aload_n dX16_several_127 rfl rfl ?_
                          refine ks_iconst (x := nI 1) dX16_several_128 (by decide) rfl ?_
                          refine ks_putf (T := TX16) (kf := 74) kx_2442 rfl in_X16 tyX16_ok nmX16 cl_X16 (by decide) M3.1 (Nat.le_of_ble_eq_true rfl) rfl rfl rfl rfl dX16_several_129 rfl ?_
                          refine md_put mdp_74 ?_
                          refine ks_ret rfl dX16_several_132 ?_
                          exact ⟨rfl, mqA.bad (J3.put (by decide)) (M3.put hT9 (by decide)) (va_up_self _ _ _) (ak_none (by omega) (by
                            rw [gk, if_neg (fun h => by omega)]))⟩
                        · have q0 : ¬ n1 < 0 := fun h => h9 ((iL_lt (a := n1) (b := 0) (by omega) (by omega) (by omega) (by omega)).mpr h)
                          obtain ⟨mq, rfl⟩ : ∃ mq : Nat, n1 = mq := ⟨n1.toNat, by omega⟩
                          rw [Int.toNat_natCast] at gk
                          refine ks_sub [(0, .ref 290), (1, .int (nI op)), (2, .long (lN kq)), (4, .long (lN mq))] rfl ?_
                          refine ks_lload dX16_several_106 rfl rfl ?_
                          refine ks_lload_n dX16_several_108 rfl rfl ?_
                          refine ks_lif_gtN (tgt := 127) (by omega) (by omega) dX16_several_109 rfl dX16_several_110 (by decide) rfl (fun h10 => ?_) (fun h10 => ?_)
                          · refine ks_aload_n dX16_several_127 rfl rfl ?_
                            refine ks_iconst (x := nI 1) dX16_several_128 (by decide) rfl ?_
                            refine ks_putf (T := TX16) (kf := 74) kx_2442 rfl in_X16 tyX16_ok nmX16 cl_X16 (by decide) M3.1 (Nat.le_of_ble_eq_true rfl) rfl rfl rfl rfl dX16_several_129 rfl ?_
                            refine md_put mdp_74 ?_
                            refine ks_ret rfl dX16_several_132 ?_
                            exact ⟨rfl, mqA.bad (J3.put (by decide)) (M3.put hT9 (by decide)) (va_up_self _ _ _) (ak_none (by omega) (by
                              rw [gk, if_neg (fun h => by omega)]))⟩
                          · refine ks_aload_n dX16_several_113 rfl rfl ?_
                            refine ks_lload_n dX16_several_114 rfl rfl ?_
                            refine ks_lload dX16_several_115 rfl rfl ?_
                            refine ks_laddN dX16_several_117 rfl ?_
                            refine ks_l2iN dX16_several_118 rfl ?_
                            refine ks_iconst (x := nI 3) dX16_several_119 (by decide) rfl ?_
                            refine ks_addN dX16_several_120 rfl ?_
                            refine ks_callV (n := 1) (M' := mX16_need) (c_rs_need (d := d + 7) M3.1 M3.2.1 (n := kq + mq + 3) (by omega)) M3.1 cl_X16 rfl kx_2165 kx_2167 kxp_87 kx_30 kx_2168 (by decide +kernel) rfl (by decide) (Nat.le_of_ble_eq_true rfl) rfl dX16_several_121 rfl (fun z6 S6 y6 => ?_)
                            obtain ⟨rfl, y6a, y6b⟩ := y6
                            by_cases c4 : kq + mq + 3 ≤ xs.length
                            · obtain rfl := (y6a c4).symm
                              rw [decide_eq_true c4]
                              refine ks_if_neZ (tgt := 133) dX16_several_124 (by decide) rfl (fun h11 => ?_) (fun h11 => ?_)
                              · refine ks_aload_n dX16_several_133 rfl rfl ?_
                                refine ks_getf (T := TX16) (kf := 67) kx_2435 rfl in_X16 cl_X16 (by decide) M3.1 rfl dX16_several_134 rfl ?_
                                refine ks_tv v673 ?_
                                refine ks_iconst (x := nI 2) dX16_several_137 (by decide) rfl ?_
                                refine ks_subN (by omega) dX16_several_138 rfl ?_
                                refine ks_istore dX16_several_139 (by decide) rfl ?_
                                refine ks_sub [(6, _), (0, _), (1, _), (2, _), (4, _)] rfl ?_
                                refine ks_aload_n dX16_several_141 rfl rfl ?_
                                refine ks_getf (T := TX16) (kf := 67) kx_2435 rfl in_X16 cl_X16 (by decide) M3.1 rfl dX16_several_142 rfl ?_
                                refine ks_tv v673 ?_
                                refine ks_iconst (x := nI 3) dX16_several_145 (by decide) rfl ?_
                                refine ks_subN (by omega) dX16_several_146 rfl ?_
                                refine ks_lload_n dX16_several_147 rfl rfl ?_
                                refine ks_l2iN dX16_several_148 rfl ?_
                                refine ks_subN (by omega) dX16_several_149 rfl ?_
                                refine ks_istore dX16_several_150 (by decide) rfl ?_
                                refine ks_sub [(7, _), (0, _), (1, _), (2, _), (4, _), (6, _)] rfl ?_
                                refine ks_lload dX16_several_152 rfl rfl ?_
                                refine ks_l2iN dX16_several_154 rfl ?_
                                refine ks_istore dX16_several_155 (by decide) rfl ?_
                                refine ks_sub [(8, _), (0, _), (1, _), (2, _), (4, _), (6, _), (7, _)] rfl ?_
                                refine ks_lload_n dX16_several_157 rfl rfl ?_
                                refine ks_l2iN dX16_several_158 rfl ?_
                                refine ks_istore dX16_several_159 (by decide) rfl ?_
                                refine ks_sub [(9, _), (0, _), (1, _), (2, _), (4, _), (6, _), (7, _), (8, _)] rfl ?_
                                refine ks_iconst (x := nI 1) dX16_several_161 (by decide) rfl ?_
                                refine ks_ti (y := ks_bo (decide (mq - 0 ≤ kq - 0))) (by rw [decide_eq_true (p := mq - 0 ≤ kq - 0) (by omega)]; rfl) ?_
                                refine ks_istore dX16_several_162 (by decide) rfl ?_
                                refine ks_sub [(10, _), (0, _), (1, _), (2, _), (4, _), (6, _), (7, _), (8, _), (9, _)] rfl ?_
                                rw [if_pos ⟨by omega, by omega, c4⟩] at gk
                                obtain ⟨ek, eo⟩ := ak_some (GD := (gdF Gp G9 L b k p m u e inp)) (op := op) (ys := ys) (c := bytL gc pb (pe - pb)) (by omega) gk
                                rw [ek, eo]
                                have cd3 := hcd.step hck (sfK.of (F := 0) (ks_up_set S (rfE (va_up V 82 (.int (nI (ops + kq))))) (a := 290) (L := [290]) (by decide))) (by decide) M3.2.1
                                refine ks_sub [(0, _), (1, _), (2, _), (4, _), (6, _), (7, _), (8, _), (9, _), (10, _)] rfl ?_
                                refine l_svLoop (d := d + 1) M3 hT9 ((va_up_ne _ _ (by decide)).trans v79) ((va_up_ne _ _ (by decide)).trans v80) ((va_up_ne _ _ (by decide)).trans v81) cd3 hck hb9 c4 (by omega) (by omega) hl v743 kq 0 0 _ _ (Nat.zero_add _) (Nat.zero_le _) (gdK.rf M3.1) M3.2.2.1 v743 (fun S7 V7 g7 k7 gs7 v747 ea => ?_) (fun S7 V7 k7 gs7 v747 ea => ?_)
                                · have M7 := M3.gd k7 gs7
                                  have o7 := M7.1
                                  have v677 := M7.2.1.v67.1
                                  obtain ⟨Q8, m8⟩ := rsQ.pop (k := kq + mq + 3) o7 M7.2.1
                                  have M8 := M7.ms hT9 m8 Q8
                                  have J8 := (J3.trans (mqK.gd (F := F) k7).j).trans (mqK.ms m8).j
                                  have l8 : (xs.drop (kq + mq + 3)).length ≤ 1000 := by rw [List.length_drop]; omega
                                  rw [List.drop_zero, List.drop_zero] at ea
                                  rw [ea]
                                  have ek2 : akB op (xs.drop (kq + mq + 3)) ys (some g7) = (if decide (op = 175) = true then (if g7 = true then some (xs.drop (kq + mq + 3), ys) else none) else some (flagL g7 :: xs.drop (kq + mq + 3), ys)) := by
                                    show akE op g7 (xs.drop (kq + mq + 3)) ys = _
                                    unfold akE
                                    by_cases h3 : op = 175
                                    · rw [if_pos (.inr h3), if_pos (decide_eq_true h3)]
                                    · rw [if_neg (by omega), if_neg (by rw [decide_eq_false h3]; decide)]
                                  rw [ek2]
                                  refine ks_aload_n dX16_several_324 rfl rfl ?_
                                  refine ks_dup dX16_several_325 rfl rfl ?_
                                  refine ks_getf (T := TX16) (kf := 67) kx_2435 rfl in_X16 cl_X16 (by decide) o7 rfl dX16_several_326 rfl ?_
                                  refine ks_tv v677 ?_
                                  refine ks_lload_n dX16_several_329 rfl rfl ?_
                                  refine ks_lload dX16_several_330 rfl rfl ?_
                                  refine ks_laddN dX16_several_332 rfl ?_
                                  refine ks_l2iN dX16_several_333 rfl ?_
                                  refine ks_iconst (x := nI 3) dX16_several_334 (by decide) rfl ?_
                                  refine ks_addN dX16_several_335 rfl ?_
                                  refine ks_subN (by omega) dX16_several_336 rfl ?_
                                  refine ks_putf (T := TX16) (kf := 67) kx_2435 rfl in_X16 tyX16_ok nmX16 cl_X16 (by decide) o7 (Nat.le_of_ble_eq_true rfl) rfl rfl rfl rfl dX16_several_337 rfl ?_
                                  refine md_put mdp_67 ?_
                                  refine ks_aload_n dX16_several_340 rfl rfl ?_
                                  refine ks_iload dX16_several_341 rfl rfl ?_
                                  refine ks_iload_n dX16_several_343 rfl rfl ?_
                                  refine ks_sipush (x := nI 175) dX16_several_344 (by decide) rfl ?_
                                  refine ks_icmp_neN (tgt := 354) (by omega) (by decide) dX16_several_347 (by decide) rfl (fun h12 => ?_) (fun h12 => ?_)
                                  · refine ks_iconst (x := nI 0) dX16_several_354 (by decide) rfl ?_
                                    rw [decide_eq_false (p := op = 175) h12]
                                    refine ks_callV (n := 2) (M' := mX16_answer) (c_rs_answer (d := d + 3) M8.1 M8.2.1 (b := g7) (v := false) l8 ((va_up_ne _ _ (by decide)).trans v747)) (ks_set_same _ _ _) cl_X16 rfl kx_2204 kx_2206 kxp_96 kx_30 kx_2207 (by decide +kernel) rfl (by decide) (Nat.le_of_ble_eq_true rfl) rfl dX16_several_355 rfl (fun z9 S9 y9 => ?_)
                                    obtain ⟨rfl, hr⟩ := y9
                                    refine ks_ret rfl dX16_several_358 ?_
                                    have w80 := (va_up_ne V (.int (nI (ops + kq))) (show 80 ≠ 82 by decide)).trans v80
                                    exact ⟨rfl, ((hr.mq M8 hT9).A (pb := pb) (ops := ops + kq) ((va_up_ne _ _ (by decide)).trans ((k7.v (by decide)).trans w80)) ((va_up_ne _ _ (by decide)).trans ((k7.v (by decide)).trans (va_up_self _ _ _)))).after J8⟩
                                  · refine ks_iconst (x := nI 1) dX16_several_350 (by decide) rfl ?_
                                    refine ks_goto (tgt := 355) dX16_several_351 (by decide) ?_
                                    rw [decide_eq_true (p := op = 175) h12]
                                    refine ks_callV (n := 2) (M' := mX16_answer) (c_rs_answer (d := d + 3) M8.1 M8.2.1 (b := g7) (v := true) l8 ((va_up_ne _ _ (by decide)).trans v747)) (ks_set_same _ _ _) cl_X16 rfl kx_2204 kx_2206 kxp_96 kx_30 kx_2207 (by decide +kernel) rfl (by decide) (Nat.le_of_ble_eq_true rfl) rfl dX16_several_355 rfl (fun z9 S9 y9 => ?_)
                                    obtain ⟨rfl, hr⟩ := y9
                                    refine ks_ret rfl dX16_several_358 ?_
                                    have w80 := (va_up_ne V (.int (nI (ops + kq))) (show 80 ≠ 82 by decide)).trans v80
                                    exact ⟨rfl, ((hr.mq M8 hT9).A (pb := pb) (ops := ops + kq) ((va_up_ne _ _ (by decide)).trans ((k7.v (by decide)).trans w80)) ((va_up_ne _ _ (by decide)).trans ((k7.v (by decide)).trans (va_up_self _ _ _)))).after J8⟩
                                · exact ⟨rfl, mqA.bad (J3.trans (mqK.gd k7).j) (M3.gd k7 gs7) v747 (by rw [List.drop_zero, List.drop_zero] at ea; rw [ea]; rfl)⟩
                              · exact absurd h11 (by decide)
                            · obtain rfl := (y6b c4).symm
                              rw [decide_eq_false c4]
                              have M4 := M3.put hT9 (j := 74) (v := .int (ks_bo true)) (by decide)
                              have J4 := J3.put (j := 74) (v := .int (ks_bo true)) (by decide)
                              refine ks_if_neZ (tgt := 133) dX16_several_124 (by decide) rfl (fun h11 => ?_) (fun h11 => ?_)
                              · exact absurd h11 (by decide)
                              · refine ks_aload_n dX16_several_127 rfl rfl ?_
                                refine ks_iconst (x := nI 1) dX16_several_128 (by decide) rfl ?_
                                refine ks_putf (T := TX16) (kf := 74) kx_2442 rfl in_X16 tyX16_ok nmX16 cl_X16 (by decide) M4.1 (Nat.le_of_ble_eq_true rfl) rfl rfl rfl rfl dX16_several_129 rfl ?_
                                refine md_put mdp_74 ?_
                                refine ks_ret rfl dX16_several_132 ?_
                                exact ⟨rfl, mqA.bad (J4.put (by decide)) (M4.put hT9 (by decide)) (va_up_self _ _ _) (ak_none (by omega) (by
                                  rw [gk, if_neg (fun h => by omega)]))⟩
                    · obtain rfl := (y5b c3).symm
                      rw [if_neg c3]
                      have M4 := M3.put hT9 (j := 74) (v := .int (ks_bo true)) (by decide)
                      have J4 := J3.put (j := 74) (v := .int (ks_bo true)) (by decide)
                      refine ks_lstore dX16_several_90 (by decide) rfl ?_
                      refine ks_sub [(4, _), (0, _), (1, _), (2, _)] rfl ?_
                      refine ks_aload_n dX16_several_92 rfl rfl ?_
                      refine ks_getf (T := TX16) (kf := 74) kx_2442 rfl in_X16 cl_X16 (by decide) M4.1 rfl dX16_several_93 rfl ?_
                      refine ks_tv (va_up_self _ _ _) ?_
                      refine ks_if_neZ (tgt := 127) dX16_several_96 (by decide) rfl (fun h8 => ?_) (fun h8 => ?_)
                      · refine ks_aload_n dX16_several_127 rfl rfl ?_
                        refine ks_iconst (x := nI 1) dX16_several_128 (by decide) rfl ?_
                        refine ks_putf (T := TX16) (kf := 74) kx_2442 rfl in_X16 tyX16_ok nmX16 cl_X16 (by decide) M4.1 (Nat.le_of_ble_eq_true rfl) rfl rfl rfl rfl dX16_several_129 rfl ?_
                        refine md_put mdp_74 ?_
                        refine ks_ret rfl dX16_several_132 ?_
                        exact ⟨rfl, mqA.bad (J4.put (by decide)) (M4.put hT9 (by decide)) (va_up_self _ _ _) (ak_none (by omega) (by
                          rw [gk, if_neg (fun h => c3 h.2.2)]))⟩
                      · exact absurd h8 (by decide)
                  · exact absurd h7 (by decide)
                · obtain rfl := (y4b c2).symm
                  rw [decide_eq_false c2]
                  have M4 := M3.put hT9 (j := 74) (v := .int (ks_bo true)) (by decide)
                  have J4 := J3.put (j := 74) (v := .int (ks_bo true)) (by decide)
                  refine ks_if_neZ (tgt := 81) dX16_several_72 (by decide) rfl (fun h7 => ?_) (fun h7 => ?_)
                  · exact absurd h7 (by decide)
                  · refine ks_aload_n dX16_several_75 rfl rfl ?_
                    refine ks_iconst (x := nI 1) dX16_several_76 (by decide) rfl ?_
                    refine ks_putf (T := TX16) (kf := 74) kx_2442 rfl in_X16 tyX16_ok nmX16 cl_X16 (by decide) M4.1 (Nat.le_of_ble_eq_true rfl) rfl rfl rfl rfl dX16_several_77 rfl ?_
                    refine md_put mdp_74 ?_
                    refine ks_ret rfl dX16_several_80 ?_
                    exact ⟨rfl, mqA.bad (J4.put (by decide)) (M4.put hT9 (by decide)) (va_up_self _ _ _) (ak_none (by omega) (by
                      rw [gk, if_neg (fun h => by omega)]))⟩
            · have p1 : ¬ n0 ≤ 20 := fun h => h5 ((iL_le (a := n0) (b := 20) (by omega) (by omega) (by omega) (by omega)).mpr h)
              refine ks_aload_n dX16_several_37 rfl rfl ?_
              refine ks_iconst (x := nI 1) dX16_several_38 (by decide) rfl ?_
              refine ks_putf (T := TX16) (kf := 74) kx_2442 rfl in_X16 tyX16_ok nmX16 cl_X16 (by decide) hO (Nat.le_of_ble_eq_true rfl) rfl rfl rfl rfl dX16_several_39 rfl ?_
              refine md_put mdp_74 ?_
              refine ks_ret rfl dX16_several_42 ?_
              exact ⟨rfl, mqA.bad ((mqJ.rf S V F).put (by decide)) (hM.put hT9 (by decide)) (va_up_self _ _ _) (ak_none (by omega) (by
                unfold gmS
                rw [if_pos ⟨by omega, c1⟩, if_neg (fun h => by rw [← en0] at h; omega)]))⟩
      · obtain rfl := (y2b c1).symm
        rw [if_neg c1]
        have MF := hM.put hT9 (j := 74) (v := .int (ks_bo true)) (by decide)
        have JF := (mqJ.rf S V F).put (j := 74) (v := .int (ks_bo true)) (by decide)
        refine ks_lstore_n dX16_several_15 (by decide) rfl ?_
        refine ks_sub [(2, _), (0, _), (1, _)] rfl ?_
        refine ks_aload_n dX16_several_16 rfl rfl ?_
        refine ks_getf (T := TX16) (kf := 74) kx_2442 rfl in_X16 cl_X16 (by decide) MF.1 rfl dX16_several_17 rfl ?_
        refine ks_tv (va_up_self _ _ _) ?_
        refine ks_if_neZ (tgt := 37) dX16_several_20 (by decide) rfl (fun h3 => ?_) (fun h3 => ?_)
        · refine ks_aload_n dX16_several_37 rfl rfl ?_
          refine ks_iconst (x := nI 1) dX16_several_38 (by decide) rfl ?_
          refine ks_putf (T := TX16) (kf := 74) kx_2442 rfl in_X16 tyX16_ok nmX16 cl_X16 (by decide) MF.1 (Nat.le_of_ble_eq_true rfl) rfl rfl rfl rfl dX16_several_39 rfl ?_
          refine md_put mdp_74 ?_
          refine ks_ret rfl dX16_several_42 ?_
          exact ⟨rfl, mqA.bad (JF.put (by decide)) (MF.put hT9 (by decide)) (va_up_self _ _ _) (ak_none (by omega) (by
            unfold gmS
            rw [if_neg (fun h => c1 h.2)]))⟩
        · exact absurd h3 (by decide)
    · exact absurd h2 (by decide)
  · obtain rfl := (y1b c0).symm
    rw [decide_eq_false c0]
    refine ks_if_neZ (tgt := 9) dX16_several_5 (by decide) rfl (fun h2 => ?_) (fun h2 => ?_)
    · exact absurd h2 (by decide)
    · refine ks_ret rfl dX16_several_8 ?_
      exact ⟨rfl, mqA.bad ((mqJ.rf S V F).put (by decide)) (hM.put hT9 (by decide)) (va_up_self _ _ _) (ak_none (by omega) (by
        unfold gmS
        rw [if_neg (fun h => by omega)]))⟩
