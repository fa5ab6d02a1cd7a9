/-! THE REFERENCE: work, act -/
def opE (GD : List Nat → List Nat → List Nat → Bool) (LK : Int → Bool) (op : Nat) (xs ys : List (List Nat)) (ops : Nat) (c : List Nat) : Option (List (List Nat) × List (List Nat)) := if 172 ≤ op ∧ op ≤ 175 then akS GD op xs ys ops c else if op = 166 ∨ (168 ≤ op ∧ op ≤ 170) then htS op xs ys else pfS LK op xs ys
def opB (op nx pb : Nat) : Nat := if op = 171 then nx else pb
def opO (op : Nat) (xs : List (List Nat)) (ops : Nat) : Nat := if 172 ≤ op ∧ op ≤ 175 then akO op xs ops else ops
theorem oe_pf {GD : List Nat → List Nat → List Nat → Bool} {LK : Int → Bool} {op ops : Nat} {xs ys : List (List Nat)} {c : List Nat} (h : op < 166 ∨ op = 167 ∨ op = 171 ∨ 175 < op) : opE GD LK op xs ys ops c = pfS LK op xs ys ∧ opO op xs ops = ops := by
  unfold opE opO
  rw [if_neg (by omega), if_neg (by omega), if_neg (by omega)]
  exact ⟨rfl, rfl⟩
theorem pf_rk {LK : Int → Bool} {op : Nat} {xs ys : List (List Nat)} (h : 139 ≤ op ∧ op ≤ 165) : pfS LK op xs ys = rkS op xs ys := by
  unfold pfS
  rw [if_neg (by omega), if_neg (by omega), if_pos h]
theorem pf_hi {LK : Int → Bool} {op : Nat} {xs ys : List (List Nat)} (h : 178 ≤ op ∧ op ≤ 185) : pfS LK op xs ys = some (xs, ys) := by
  unfold pfS
  rw [if_neg (by omega), if_neg (by omega), if_neg (by omega), if_neg (by omega), if_neg (by omega), if_neg (by omega), if_neg (by omega), if_neg (by omega), if_neg (by omega), if_pos (by omega)]
theorem pf_no {LK : Int → Bool} {op : Nat} {xs ys : List (List Nat)} (h : op = 80 ∨ op = 98 ∨ op = 106 ∨ (126 ≤ op ∧ op ≤ 129) ∨ (131 ≤ op ∧ op ≤ 134) ∨ op = 137 ∨ op = 138 ∨ op = 167 ∨ 185 < op) : pfS LK op xs ys = none := by
  unfold pfS
  rw [if_neg (by omega), if_neg (by omega), if_neg (by omega), if_neg (by omega), if_neg (by omega), if_neg (by omega), if_neg (by omega), if_neg (by omega), if_neg (by omega), if_neg (by omega)]
theorem pf_nm {LK : Int → Bool} {op : Nat} {xs ys : List (List Nat)} (h : op = 79 ∨ (81 ≤ op ∧ op ≤ 96)) : pfS LK op xs ys = some (numI ((op : Int) - 80) :: xs, ys) := by
  unfold pfS
  rw [if_pos h]
theorem pf_mv {LK : Int → Bool} {op : Nat} {xs ys : List (List Nat)} (h : op = 105 ∨ (107 ≤ op ∧ op ≤ 125)) : pfS LK op xs ys = if op = 105 then vfS xs ys else mvS op xs ys := by
  unfold pfS
  by_cases h5 : op = 105
  · rw [if_neg (by omega), if_neg (by omega), if_neg (by omega), if_pos h5, if_pos h5]
  · rw [if_neg (by omega), if_pos (by omega), if_neg h5]
/-- a step of hashing -/
theorem mqS.dg {S S1 : ks_S} {V : Nat → Value} {F : Nat} {xs ys : List (List Nat)} {vs : Vs} {Gp : Pt} {P y N L t b k p m u e inp : Nat} {G9 : Nat → Nat} {V1 : Nat → Value} {F1 : Nat} {xs1 ys1 : List (List Nat)} (h : mqS S V F xs ys vs Gp P y N G9 L t b k p m u e inp) (hT9 : mqT P y N G9 k u e inp) (hu : sfK LDg S S1 F F1) (o1 : S1.2.2 290 = some (rfE V1)) (hv : ∀ k, k ≠ 67 → k ≠ 70 → k ≠ 74 → V1 k = V k) (hQ : rsQ S1 V1 F1 xs1 ys1 vs) (hh1 : rhS S1) : mqS S1 V1 F1 xs1 ys1 vs Gp P y N G9 L t b k p m u e inp := by
  obtain ⟨hO, hK, hG, hh, h369, hlow, dn, h368⟩ := h
  obtain ⟨-, -, ⟨hy, hP⟩, ⟨hN, -⟩, -⟩ := hT9
  obtain ⟨h1, ⟨v1, v2, v3⟩, -, ⟨g6, k6, h4⟩, ⟨Y, h5⟩, ⟨c, h6⟩, h7⟩ := hG
  have hv' : ∀ j, j ≠ 67 ∧ j ≠ 70 ∧ j ≠ 74 → V1 j = V j := fun j hj => hv j hj.1 hj.2.1 hj.2.2
  refine ⟨o1, hQ, ⟨h1.sf hN hu (fun x hx => by have hb : x < 564 := (show ∀ x ∈ LDg, x < 564 by decide) x hx; omega), ⟨(hv' _ (by decide)).trans v1, (hv' _ (by decide)).trans v2, (hv' _ (by decide)).trans v3⟩, ⟨hh1.1, hh1.2.2.1⟩, ⟨g6, k6, hu.at h4 (by decide)⟩, ⟨Y, h5.sf (by decide) hu (by decide) (hv' _ (by decide))⟩, ⟨c, h6.sf hu (by decide) ⟨hv' _ (by decide), hv' _ (by decide), hv' _ (by decide)⟩⟩, h7.sf hu (by decide)⟩, hh1, hu.at h369 (by decide), hlow.sf hu (fun x hx => ?_), dn, hu.at h368 (by decide)⟩
  have hc : x = 290 ∨ x ∈ LDh ∨ x ∈ ([361, 362, 363, 364, 365, 366, 367] : List Nat) := (show ∀ x ∈ LDg, x = 290 ∨ x ∈ LDh ∨ x ∈ ([361, 362, 363, 364, 365, 366, 367] : List Nat) by decide) x hx
  rcases hc with rfl | hc | hc
  · exact ⟨_, o1, fun g h => by cases h⟩
  · exact hh1.non x hc
  · exact hQ.non x hc
set_option maxRecDepth 100000 in
set_option maxHeartbeats 1600000 in
theorem c_rs_work {l : Launch} {G : ks_G} {d : Nat} {S : ks_S} {V : Nat → Value} {F : Nat} {xs ys : List (List Nat)} {vs : Vs} {Gp : Pt} {P y N L t b k p m u e inp : Nat} {G9 : Nat → Nat} (hM : mqS S V F xs ys vs Gp P y N G9 L t b k p m u e inp) (hT9 : mqT P y N G9 k u e inp) {cy Nc pb pe : Nat} {gc : Nat → Nat} (v79 : V 79 = .ref cy) (v80 : V 80 = .int (nI pb)) (v81 : V 81 = .int (nI pe)) (hcd : cdQ S cy Nc pe gc) (hck : cdK vs cy Nc pe gc) (hb9 : pb ≤ pe ∧ pe - pb ≤ 1600) {op ops nx : Nat} (hop : op < 256) (hnb : badO op = false) (hl : xs.length + ys.length ≤ 1000) (v74 : V 74 = .int (ks_bo false)) (v82 : V 82 = .int (nI ops)) (hops : ops ≤ 201) (h139 : 139 ≤ op) : ks_P l G yX16_work_ mX16_work_ (d + 9) [.ref 290, .int (nI op), .int (nI nx)] S (fun z S' => z = none ∧ mqA S S' V F (opE (gdF Gp G9 L b k p m u e inp) (lkB G9 L p e inp) op xs ys ops (bytL gc pb (pe - pb))) vs Gp P y N G9 L t b k p m u e inp (opB op nx pb) (opO op xs ops)) := by
  obtain ⟨hO, hK, hG, hh, h369, hlow, h368⟩ := id hM
  refine ks_of (by decide) rfl rfl (Nat.le_of_ble_eq_true rfl) ?_
  show ks_X l G mX16_work_ (d + 9) 0 [(0, .ref 290), (1, .int (nI op)), (2, .int (nI nx))] [] S _
  refine ks_iload_n dX16_work__0 rfl rfl ?_
  refine ks_sipush (x := nI 139) dX16_work__1 (by decide) rfl ?_
  refine ks_icmp_ltN (tgt := 20) (by omega) (by decide) dX16_work__4 (by decide) rfl (fun h1 => absurd h1 (by omega)) (fun h1 => ?_)
  refine ks_iload_n dX16_work__7 rfl rfl ?_
  refine ks_sipush (x := nI 165) dX16_work__8 (by decide) rfl ?_
  refine ks_icmp_gtN (tgt := 20) (by omega) (by decide) dX16_work__11 (by decide) rfl (fun h2 => ?_) (fun h2 => ?_)
  · refine ks_iload_n dX16_work__20 rfl rfl ?_
    have hsw : op = 166 ∨ op = 167 ∨ op = 168 ∨ op = 169 ∨ op = 170 ∨ op = 171 ∨ op = 172 ∨ op = 173 ∨ op = 174 ∨ op = 175 ∨ op = 176 ∨ op = 177 ∨ ((op < 166 ∨ 177 < op)) := by omega
    rcases hsw with rfl | rfl | rfl | rfl | rfl | rfl | rfl | rfl | rfl | rfl | rfl | rfl | hsw
    · refine ks_tableIn (off := 63) (tgt := 84) dX16_work__21 (by decide) (by decide) (by decide) (by decide) ?_
      rw [show opE (gdF Gp G9 L b k p m u e inp) (lkB G9 L p e inp) 166 xs ys ops (bytL gc pb (pe - pb)) = htS 166 xs ys from rfl, show opO 166 xs ops = ops from rfl, show opB 166 nx pb = pb from rfl]
      refine ks_aload_n dX16_work__84 rfl rfl ?_
      refine ks_iconst (x := nI 1) dX16_work__85 (by decide) rfl ?_
      refine ks_callV (n := 1) (M' := mX16_need) (c_rs_need (d := d + 8) hO hK (n := 1) (by decide)) hO cl_X16 rfl kx_2165 kx_2167 kxp_87 kx_30 kx_2168 (by decide +kernel) rfl (by decide) (Nat.le_of_ble_eq_true rfl) rfl dX16_work__86 rfl (fun z3 S3 y3 => ?_)
      obtain ⟨rfl, y3a, y3b⟩ := y3
      by_cases c0 : 1 ≤ xs.length
      · obtain rfl := (y3a c0).symm
        rw [decide_eq_true c0]
        refine ks_if_eqZ (tgt := 175) dX16_work__89 (by decide) rfl (fun h4 => ?_) (fun h4 => ?_)
        · exact absurd h4 (by decide)
        · refine ks_aload_n dX16_work__92 rfl rfl ?_
          refine ks_iload_n dX16_work__93 rfl rfl ?_
          refine ks_callV (n := 1) (M' := mX16_digested) (c_rs_digested (d := d + 3) hO hK (op := 166) (by decide) c0 (by omega) hh) hO cl_X16 rfl kx_2208 kx_2210 kxp_97 kx_30 kx_2211 (by decide +kernel) rfl (by decide) (Nat.le_of_ble_eq_true rfl) rfl dX16_work__94 rfl (fun z5 S5 y5 => ?_)
          obtain ⟨rfl, V5, F5, u5, o5, hv5, e74, Q5, hh5⟩ := y5
          refine ks_goto (tgt := 175) dX16_work__97 (by decide) ?_
          refine ks_ret rfl dX16_work__175 ?_
          have M5 := hM.dg hT9 u5 o5 hv5 Q5 hh5
          have J5 : mqJ S S5 V V5 F F5 := ⟨u5.mono (by decide), fun j hj => hv5 j (fun q => hj (by rw [q]; decide)) (fun q => hj (by rw [q]; decide)) (fun q => hj (by rw [q]; decide))⟩
          exact ⟨rfl, V5, F5, _, _, J5, M5, .inl ⟨e74.trans v74, if_neg (by omega), (hv5 _ (by decide) (by decide) (by decide)).trans v80, (hv5 _ (by decide) (by decide) (by decide)).trans v82⟩⟩
      · obtain rfl := (y3b c0).symm
        rw [decide_eq_false c0]
        refine ks_if_eqZ (tgt := 175) dX16_work__89 (by decide) rfl (fun h4 => ?_) (fun h4 => ?_)
        · refine ks_ret rfl dX16_work__175 ?_
          exact ⟨rfl, mqA.bad ((mqJ.rf S V F).put (by decide)) (hM.put hT9 (by decide)) (va_up_self _ _ _) (by
            unfold htS
            rw [if_pos (by omega)])⟩
        · exact absurd h4 (by decide)
    · refine ks_tableIn (off := 126) (tgt := 147) dX16_work__21 (by decide) (by decide) (by decide) (by decide) ?_
      rw [show opE (gdF Gp G9 L b k p m u e inp) (lkB G9 L p e inp) 167 xs ys ops (bytL gc pb (pe - pb)) = pfS (lkB G9 L p e inp) 167 xs ys from rfl, show opO 167 xs ops = ops from rfl, show opB 167 nx pb = pb from rfl]
      refine ks_aload_n dX16_work__147 rfl rfl ?_
      refine ks_dup dX16_work__148 rfl rfl ?_
      refine ks_getf (T := TX16) (kf := 74) kx_2442 rfl in_X16 cl_X16 (by decide) hO rfl dX16_work__149 rfl ?_
      refine ks_tv v74 ?_
      refine ks_iload_n dX16_work__152 rfl rfl ?_
      refine ks_sipush (x := nI 167) dX16_work__153 (by decide) rfl ?_
      refine ks_icmp_eqN (tgt := 166) (by decide) (by decide) dX16_work__156 (by decide) rfl (fun h4 => ?_) (fun h4 => ?_)
      · refine ks_iconst (x := nI 1) dX16_work__166 (by decide) rfl ?_
        refine ks_goto (tgt := 171) dX16_work__167 (by decide) ?_
        refine ks_ior dX16_work__171 rfl ?_
        refine ks_ti (y := ks_bo true) (by decide) ?_
        refine ks_putf (T := TX16) (kf := 74) kx_2442 rfl in_X16 tyX16_ok nmX16 cl_X16 (by decide) hO (Nat.le_of_ble_eq_true rfl) rfl rfl (ks_bo_z _) rfl dX16_work__172 rfl ?_
        refine md_put mdp_74 ?_
        refine ks_ret rfl dX16_work__175 ?_
        exact ⟨rfl, mqA.bad ((mqJ.rf S V F).put (by decide)) (hM.put hT9 (by decide)) (va_up_self _ _ _) (by first | rfl | exact pf_no (by omega))⟩
      · exact absurd h4 (by decide)
    · refine ks_tableIn (off := 63) (tgt := 84) dX16_work__21 (by decide) (by decide) (by decide) (by decide) ?_
      rw [show opE (gdF Gp G9 L b k p m u e inp) (lkB G9 L p e inp) 168 xs ys ops (bytL gc pb (pe - pb)) = htS 168 xs ys from rfl, show opO 168 xs ops = ops from rfl, show opB 168 nx pb = pb from rfl]
      refine ks_aload_n dX16_work__84 rfl rfl ?_
      refine ks_iconst (x := nI 1) dX16_work__85 (by decide) rfl ?_
      refine ks_callV (n := 1) (M' := mX16_need) (c_rs_need (d := d + 8) hO hK (n := 1) (by decide)) hO cl_X16 rfl kx_2165 kx_2167 kxp_87 kx_30 kx_2168 (by decide +kernel) rfl (by decide) (Nat.le_of_ble_eq_true rfl) rfl dX16_work__86 rfl (fun z3 S3 y3 => ?_)
      obtain ⟨rfl, y3a, y3b⟩ := y3
      by_cases c0 : 1 ≤ xs.length
      · obtain rfl := (y3a c0).symm
        rw [decide_eq_true c0]
        refine ks_if_eqZ (tgt := 175) dX16_work__89 (by decide) rfl (fun h4 => ?_) (fun h4 => ?_)
        · exact absurd h4 (by decide)
        · refine ks_aload_n dX16_work__92 rfl rfl ?_
          refine ks_iload_n dX16_work__93 rfl rfl ?_
          refine ks_callV (n := 1) (M' := mX16_digested) (c_rs_digested (d := d + 3) hO hK (op := 168) (by decide) c0 (by omega) hh) hO cl_X16 rfl kx_2208 kx_2210 kxp_97 kx_30 kx_2211 (by decide +kernel) rfl (by decide) (Nat.le_of_ble_eq_true rfl) rfl dX16_work__94 rfl (fun z5 S5 y5 => ?_)
          obtain ⟨rfl, V5, F5, u5, o5, hv5, e74, Q5, hh5⟩ := y5
          refine ks_goto (tgt := 175) dX16_work__97 (by decide) ?_
          refine ks_ret rfl dX16_work__175 ?_
          have M5 := hM.dg hT9 u5 o5 hv5 Q5 hh5
          have J5 : mqJ S S5 V V5 F F5 := ⟨u5.mono (by decide), fun j hj => hv5 j (fun q => hj (by rw [q]; decide)) (fun q => hj (by rw [q]; decide)) (fun q => hj (by rw [q]; decide))⟩
          exact ⟨rfl, V5, F5, _, _, J5, M5, .inl ⟨e74.trans v74, if_neg (by omega), (hv5 _ (by decide) (by decide) (by decide)).trans v80, (hv5 _ (by decide) (by decide) (by decide)).trans v82⟩⟩
      · obtain rfl := (y3b c0).symm
        rw [decide_eq_false c0]
        refine ks_if_eqZ (tgt := 175) dX16_work__89 (by decide) rfl (fun h4 => ?_) (fun h4 => ?_)
        · refine ks_ret rfl dX16_work__175 ?_
          exact ⟨rfl, mqA.bad ((mqJ.rf S V F).put (by decide)) (hM.put hT9 (by decide)) (va_up_self _ _ _) (by
            unfold htS
            rw [if_pos (by omega)])⟩
        · exact absurd h4 (by decide)
    · refine ks_tableIn (off := 63) (tgt := 84) dX16_work__21 (by decide) (by decide) (by decide) (by decide) ?_
      rw [show opE (gdF Gp G9 L b k p m u e inp) (lkB G9 L p e inp) 169 xs ys ops (bytL gc pb (pe - pb)) = htS 169 xs ys from rfl, show opO 169 xs ops = ops from rfl, show opB 169 nx pb = pb from rfl]
      refine ks_aload_n dX16_work__84 rfl rfl ?_
      refine ks_iconst (x := nI 1) dX16_work__85 (by decide) rfl ?_
      refine ks_callV (n := 1) (M' := mX16_need) (c_rs_need (d := d + 8) hO hK (n := 1) (by decide)) hO cl_X16 rfl kx_2165 kx_2167 kxp_87 kx_30 kx_2168 (by decide +kernel) rfl (by decide) (Nat.le_of_ble_eq_true rfl) rfl dX16_work__86 rfl (fun z3 S3 y3 => ?_)
      obtain ⟨rfl, y3a, y3b⟩ := y3
      by_cases c0 : 1 ≤ xs.length
      · obtain rfl := (y3a c0).symm
        rw [decide_eq_true c0]
        refine ks_if_eqZ (tgt := 175) dX16_work__89 (by decide) rfl (fun h4 => ?_) (fun h4 => ?_)
        · exact absurd h4 (by decide)
        · refine ks_aload_n dX16_work__92 rfl rfl ?_
          refine ks_iload_n dX16_work__93 rfl rfl ?_
          refine ks_callV (n := 1) (M' := mX16_digested) (c_rs_digested (d := d + 3) hO hK (op := 169) (by decide) c0 (by omega) hh) hO cl_X16 rfl kx_2208 kx_2210 kxp_97 kx_30 kx_2211 (by decide +kernel) rfl (by decide) (Nat.le_of_ble_eq_true rfl) rfl dX16_work__94 rfl (fun z5 S5 y5 => ?_)
          obtain ⟨rfl, V5, F5, u5, o5, hv5, e74, Q5, hh5⟩ := y5
          refine ks_goto (tgt := 175) dX16_work__97 (by decide) ?_
          refine ks_ret rfl dX16_work__175 ?_
          have M5 := hM.dg hT9 u5 o5 hv5 Q5 hh5
          have J5 : mqJ S S5 V V5 F F5 := ⟨u5.mono (by decide), fun j hj => hv5 j (fun q => hj (by rw [q]; decide)) (fun q => hj (by rw [q]; decide)) (fun q => hj (by rw [q]; decide))⟩
          exact ⟨rfl, V5, F5, _, _, J5, M5, .inl ⟨e74.trans v74, if_neg (by omega), (hv5 _ (by decide) (by decide) (by decide)).trans v80, (hv5 _ (by decide) (by decide) (by decide)).trans v82⟩⟩
      · obtain rfl := (y3b c0).symm
        rw [decide_eq_false c0]
        refine ks_if_eqZ (tgt := 175) dX16_work__89 (by decide) rfl (fun h4 => ?_) (fun h4 => ?_)
        · refine ks_ret rfl dX16_work__175 ?_
          exact ⟨rfl, mqA.bad ((mqJ.rf S V F).put (by decide)) (hM.put hT9 (by decide)) (va_up_self _ _ _) (by
            unfold htS
            rw [if_pos (by omega)])⟩
        · exact absurd h4 (by decide)
    · refine ks_tableIn (off := 63) (tgt := 84) dX16_work__21 (by decide) (by decide) (by decide) (by decide) ?_
      rw [show opE (gdF Gp G9 L b k p m u e inp) (lkB G9 L p e inp) 170 xs ys ops (bytL gc pb (pe - pb)) = htS 170 xs ys from rfl, show opO 170 xs ops = ops from rfl, show opB 170 nx pb = pb from rfl]
      refine ks_aload_n dX16_work__84 rfl rfl ?_
      refine ks_iconst (x := nI 1) dX16_work__85 (by decide) rfl ?_
      refine ks_callV (n := 1) (M' := mX16_need) (c_rs_need (d := d + 8) hO hK (n := 1) (by decide)) hO cl_X16 rfl kx_2165 kx_2167 kxp_87 kx_30 kx_2168 (by decide +kernel) rfl (by decide) (Nat.le_of_ble_eq_true rfl) rfl dX16_work__86 rfl (fun z3 S3 y3 => ?_)
      obtain ⟨rfl, y3a, y3b⟩ := y3
      by_cases c0 : 1 ≤ xs.length
      · obtain rfl := (y3a c0).symm
        rw [decide_eq_true c0]
        refine ks_if_eqZ (tgt := 175) dX16_work__89 (by decide) rfl (fun h4 => ?_) (fun h4 => ?_)
        · exact absurd h4 (by decide)
        · refine ks_aload_n dX16_work__92 rfl rfl ?_
          refine ks_iload_n dX16_work__93 rfl rfl ?_
          refine ks_callV (n := 1) (M' := mX16_digested) (c_rs_digested (d := d + 3) hO hK (op := 170) (by decide) c0 (by omega) hh) hO cl_X16 rfl kx_2208 kx_2210 kxp_97 kx_30 kx_2211 (by decide +kernel) rfl (by decide) (Nat.le_of_ble_eq_true rfl) rfl dX16_work__94 rfl (fun z5 S5 y5 => ?_)
          obtain ⟨rfl, V5, F5, u5, o5, hv5, e74, Q5, hh5⟩ := y5
          refine ks_goto (tgt := 175) dX16_work__97 (by decide) ?_
          refine ks_ret rfl dX16_work__175 ?_
          have M5 := hM.dg hT9 u5 o5 hv5 Q5 hh5
          have J5 : mqJ S S5 V V5 F F5 := ⟨u5.mono (by decide), fun j hj => hv5 j (fun q => hj (by rw [q]; decide)) (fun q => hj (by rw [q]; decide)) (fun q => hj (by rw [q]; decide))⟩
          exact ⟨rfl, V5, F5, _, _, J5, M5, .inl ⟨e74.trans v74, if_neg (by omega), (hv5 _ (by decide) (by decide) (by decide)).trans v80, (hv5 _ (by decide) (by decide) (by decide)).trans v82⟩⟩
      · obtain rfl := (y3b c0).symm
        rw [decide_eq_false c0]
        refine ks_if_eqZ (tgt := 175) dX16_work__89 (by decide) rfl (fun h4 => ?_) (fun h4 => ?_)
        · refine ks_ret rfl dX16_work__175 ?_
          exact ⟨rfl, mqA.bad ((mqJ.rf S V F).put (by decide)) (hM.put hT9 (by decide)) (va_up_self _ _ _) (by
            unfold htS
            rw [if_pos (by omega)])⟩
        · exact absurd h4 (by decide)
    · refine ks_tableIn (off := 79) (tgt := 100) dX16_work__21 (by decide) (by decide) (by decide) (by decide) ?_
      rw [show opE (gdF Gp G9 L b k p m u e inp) (lkB G9 L p e inp) 171 xs ys ops (bytL gc pb (pe - pb)) = pfS (lkB G9 L p e inp) 171 xs ys from rfl, show opO 171 xs ops = ops from rfl, show opB 171 nx pb = nx from rfl]
      refine ks_aload_n dX16_work__100 rfl rfl ?_
      refine ks_iload_n dX16_work__101 rfl rfl ?_
      refine ks_putf (T := TX16) (kf := 80) kx_2448 rfl in_X16 tyX16_ok nmX16 cl_X16 (by decide) hO (Nat.le_of_ble_eq_true rfl) rfl rfl rfl rfl dX16_work__102 rfl ?_
      refine md_put mdp_80 ?_
      refine ks_goto (tgt := 175) dX16_work__105 (by decide) ?_
      refine ks_ret rfl dX16_work__175 ?_
      exact ⟨rfl, _, F, xs, ys, (mqJ.rf S V F).put (by decide), hM.put hT9 (by decide), .inl ⟨(va_up_ne _ _ (by decide)).trans v74, rfl, va_up_self _ _ _, (va_up_ne _ _ (by decide)).trans v82⟩⟩
    · refine ks_tableIn (off := 87) (tgt := 108) dX16_work__21 (by decide) (by decide) (by decide) (by decide) ?_
      rw [show opE (gdF Gp G9 L b k p m u e inp) (lkB G9 L p e inp) 172 xs ys ops (bytL gc pb (pe - pb)) = akS (gdF Gp G9 L b k p m u e inp) 172 xs ys ops (bytL gc pb (pe - pb)) from rfl, show opO 172 xs ops = akO 172 xs ops from rfl, show opB 172 nx pb = pb from rfl]
      refine ks_aload_n dX16_work__108 rfl rfl ?_
      refine ks_iconst (x := nI 2) dX16_work__109 (by decide) rfl ?_
      refine ks_callV (n := 1) (M' := mX16_need) (c_rs_need (d := d + 8) hO hK (n := 2) (by decide)) hO cl_X16 rfl kx_2165 kx_2167 kxp_87 kx_30 kx_2168 (by decide +kernel) rfl (by decide) (Nat.le_of_ble_eq_true rfl) rfl dX16_work__110 rfl (fun z3 S3 y3 => ?_)
      obtain ⟨rfl, y3a, y3b⟩ := y3
      by_cases c0 : 2 ≤ xs.length
      · obtain rfl := (y3a c0).symm
        rw [decide_eq_true c0]
        refine ks_if_eqZ (tgt := 175) dX16_work__113 (by decide) rfl (fun h4 => ?_) (fun h4 => ?_)
        · exact absurd h4 (by decide)
        · refine ks_aload_n dX16_work__116 rfl rfl ?_
          refine ks_iload_n dX16_work__117 rfl rfl ?_
          refine ks_callV (n := 1) (M' := mX16_asked) (c_rs_asked (d := d + 1) hM hT9 v79 v80 v81 hcd hck hb9 (op := 172) (ops := ops) c0 (by omega) (by decide) v74) hO cl_X16 rfl kx_2233 kx_2235 kxp_102 kx_30 kx_2236 (by decide +kernel) rfl (by decide) (Nat.le_of_ble_eq_true rfl) rfl dX16_work__118 rfl (fun z5 S5 y5 => ?_)
          obtain ⟨rfl, hr⟩ := y5
          refine ks_goto (tgt := 175) dX16_work__121 (by decide) ?_
          refine ks_ret rfl dX16_work__175 ?_
          exact ⟨rfl, hr.A v80 v82⟩
      · obtain rfl := (y3b c0).symm
        rw [decide_eq_false c0]
        refine ks_if_eqZ (tgt := 175) dX16_work__113 (by decide) rfl (fun h4 => ?_) (fun h4 => ?_)
        · refine ks_ret rfl dX16_work__175 ?_
          exact ⟨rfl, mqA.bad ((mqJ.rf S V F).put (by decide)) (hM.put hT9 (by decide)) (va_up_self _ _ _) (by
            unfold akS
            rw [if_pos (by decide), if_pos (by omega)])⟩
        · exact absurd h4 (by decide)
    · refine ks_tableIn (off := 87) (tgt := 108) dX16_work__21 (by decide) (by decide) (by decide) (by decide) ?_
      rw [show opE (gdF Gp G9 L b k p m u e inp) (lkB G9 L p e inp) 173 xs ys ops (bytL gc pb (pe - pb)) = akS (gdF Gp G9 L b k p m u e inp) 173 xs ys ops (bytL gc pb (pe - pb)) from rfl, show opO 173 xs ops = akO 173 xs ops from rfl, show opB 173 nx pb = pb from rfl]
      refine ks_aload_n dX16_work__108 rfl rfl ?_
      refine ks_iconst (x := nI 2) dX16_work__109 (by decide) rfl ?_
      refine ks_callV (n := 1) (M' := mX16_need) (c_rs_need (d := d + 8) hO hK (n := 2) (by decide)) hO cl_X16 rfl kx_2165 kx_2167 kxp_87 kx_30 kx_2168 (by decide +kernel) rfl (by decide) (Nat.le_of_ble_eq_true rfl) rfl dX16_work__110 rfl (fun z3 S3 y3 => ?_)
      obtain ⟨rfl, y3a, y3b⟩ := y3
      by_cases c0 : 2 ≤ xs.length
      · obtain rfl := (y3a c0).symm
        rw [decide_eq_true c0]
        refine ks_if_eqZ (tgt := 175) dX16_work__113 (by decide) rfl (fun h4 => ?_) (fun h4 => ?_)
        · exact absurd h4 (by decide)
        · refine ks_aload_n dX16_work__116 rfl rfl ?_
          refine ks_iload_n dX16_work__117 rfl rfl ?_
          refine ks_callV (n := 1) (M' := mX16_asked) (c_rs_asked (d := d + 1) hM hT9 v79 v80 v81 hcd hck hb9 (op := 173) (ops := ops) c0 (by omega) (by decide) v74) hO cl_X16 rfl kx_2233 kx_2235 kxp_102 kx_30 kx_2236 (by decide +kernel) rfl (by decide) (Nat.le_of_ble_eq_true rfl) rfl dX16_work__118 rfl (fun z5 S5 y5 => ?_)
          obtain ⟨rfl, hr⟩ := y5
          refine ks_goto (tgt := 175) dX16_work__121 (by decide) ?_
          refine ks_ret rfl dX16_work__175 ?_
          exact ⟨rfl, hr.A v80 v82⟩
      · obtain rfl := (y3b c0).symm
        rw [decide_eq_false c0]
        refine ks_if_eqZ (tgt := 175) dX16_work__113 (by decide) rfl (fun h4 => ?_) (fun h4 => ?_)
        · refine ks_ret rfl dX16_work__175 ?_
          exact ⟨rfl, mqA.bad ((mqJ.rf S V F).put (by decide)) (hM.put hT9 (by decide)) (va_up_self _ _ _) (by
            unfold akS
            rw [if_pos (by decide), if_pos (by omega)])⟩
        · exact absurd h4 (by decide)
    · refine ks_tableIn (off := 103) (tgt := 124) dX16_work__21 (by decide) (by decide) (by decide) (by decide) ?_
      rw [show opE (gdF Gp G9 L b k p m u e inp) (lkB G9 L p e inp) 174 xs ys ops (bytL gc pb (pe - pb)) = akS (gdF Gp G9 L b k p m u e inp) 174 xs ys ops (bytL gc pb (pe - pb)) from rfl, show opO 174 xs ops = akO 174 xs ops from rfl, show opB 174 nx pb = pb from rfl]
      refine ks_aload_n dX16_work__124 rfl rfl ?_
      refine ks_iload_n dX16_work__125 rfl rfl ?_
      refine ks_callV (n := 1) (M' := mX16_several) (c_rs_several (d := d) hM hT9 v79 v80 v81 hcd hck hb9 (op := 174) (by omega) (by decide) v74 v82 hops) hO cl_X16 rfl kx_2330 kx_2332 kxp_119 kx_30 kx_2333 (by decide +kernel) rfl (by decide) (Nat.le_of_ble_eq_true rfl) rfl dX16_work__126 rfl (fun z5 S5 y5 => ?_)
      obtain ⟨rfl, hr⟩ := y5
      refine ks_goto (tgt := 175) dX16_work__129 (by decide) ?_
      refine ks_ret rfl dX16_work__175 ?_
      exact ⟨rfl, hr⟩
    · refine ks_tableIn (off := 103) (tgt := 124) dX16_work__21 (by decide) (by decide) (by decide) (by decide) ?_
      rw [show opE (gdF Gp G9 L b k p m u e inp) (lkB G9 L p e inp) 175 xs ys ops (bytL gc pb (pe - pb)) = akS (gdF Gp G9 L b k p m u e inp) 175 xs ys ops (bytL gc pb (pe - pb)) from rfl, show opO 175 xs ops = akO 175 xs ops from rfl, show opB 175 nx pb = pb from rfl]
      refine ks_aload_n dX16_work__124 rfl rfl ?_
      refine ks_iload_n dX16_work__125 rfl rfl ?_
      refine ks_callV (n := 1) (M' := mX16_several) (c_rs_several (d := d) hM hT9 v79 v80 v81 hcd hck hb9 (op := 175) (by omega) (by decide) v74 v82 hops) hO cl_X16 rfl kx_2330 kx_2332 kxp_119 kx_30 kx_2333 (by decide +kernel) rfl (by decide) (Nat.le_of_ble_eq_true rfl) rfl dX16_work__126 rfl (fun z5 S5 y5 => ?_)
      obtain ⟨rfl, hr⟩ := y5
      refine ks_goto (tgt := 175) dX16_work__129 (by decide) ?_
      refine ks_ret rfl dX16_work__175 ?_
      exact ⟨rfl, hr⟩
    · refine ks_tableIn (off := 126) (tgt := 147) dX16_work__21 (by decide) (by decide) (by decide) (by decide) ?_
      rw [show opE (gdF Gp G9 L b k p m u e inp) (lkB G9 L p e inp) 176 xs ys ops (bytL gc pb (pe - pb)) = pfS (lkB G9 L p e inp) 176 xs ys from rfl, show opO 176 xs ops = ops from rfl, show opB 176 nx pb = pb from rfl]
      refine ks_aload_n dX16_work__147 rfl rfl ?_
      refine ks_dup dX16_work__148 rfl rfl ?_
      refine ks_getf (T := TX16) (kf := 74) kx_2442 rfl in_X16 cl_X16 (by decide) hO rfl dX16_work__149 rfl ?_
      refine ks_tv v74 ?_
      refine ks_iload_n dX16_work__152 rfl rfl ?_
      refine ks_sipush (x := nI 167) dX16_work__153 (by decide) rfl ?_
      refine ks_icmp_eqN (tgt := 166) (by decide) (by decide) dX16_work__156 (by decide) rfl (fun h4 => ?_) (fun h4 => ?_)
      · exact absurd h4 (by decide)
      · refine ks_iload_n dX16_work__159 rfl rfl ?_
        refine ks_sipush (x := nI 185) dX16_work__160 (by decide) rfl ?_
        refine ks_icmp_leN (tgt := 170) (by decide) (by decide) dX16_work__163 (by decide) rfl (fun h6 => ?_) (fun h6 => ?_)
        · refine ks_iconst (x := nI 0) dX16_work__170 (by decide) rfl ?_
          refine ks_ior dX16_work__171 rfl ?_
          refine ks_ti (y := ks_bo false) (by decide) ?_
          refine ks_putf (T := TX16) (kf := 74) kx_2442 rfl in_X16 tyX16_ok nmX16 cl_X16 (by decide) hO (Nat.le_of_ble_eq_true rfl) rfl rfl (ks_bo_z _) rfl dX16_work__172 rfl ?_
          refine md_put mdp_74 ?_
          refine ks_ret rfl dX16_work__175 ?_
          exact ⟨rfl, _, F, xs, ys, (mqJ.rf S V F).put (by decide), hM.put hT9 (by decide), .inl ⟨va_up_self _ _ _, by first | rfl | exact pf_hi (by omega), (va_up_ne _ _ (by decide)).trans v80, (va_up_ne _ _ (by decide)).trans v82⟩⟩
        · exact absurd h6 (by decide)
    · refine ks_tableIn (off := 111) (tgt := 132) dX16_work__21 (by decide) (by decide) (by decide) (by decide) ?_
      rw [show opE (gdF Gp G9 L b k p m u e inp) (lkB G9 L p e inp) 177 xs ys ops (bytL gc pb (pe - pb)) = pfS (lkB G9 L p e inp) 177 xs ys from rfl, show opO 177 xs ops = ops from rfl, show opB 177 nx pb = pb from rfl]
      rw [show pfS (lkB G9 L p e inp) 177 xs ys = (if (0 < xs.length ∧ (xs.getD 0 []).length ≤ 5) ∧ lkB G9 L p e inp (numV (xs.getD 0 [])) = true then some (xs, ys) else none) from rfl]
      refine ks_aload_n dX16_work__132 rfl rfl ?_
      refine ks_iconst (x := nI 1) dX16_work__133 (by decide) rfl ?_
      refine ks_callV (n := 1) (M' := mX16_need) (c_rs_need (d := d + 8) hO hK (n := 1) (by decide)) hO cl_X16 rfl kx_2165 kx_2167 kxp_87 kx_30 kx_2168 (by decide +kernel) rfl (by decide) (Nat.le_of_ble_eq_true rfl) rfl dX16_work__134 rfl (fun z3 S3 y3 => ?_)
      obtain ⟨rfl, y3a, y3b⟩ := y3
      by_cases c0 : 1 ≤ xs.length
      · obtain rfl := (y3a c0).symm
        rw [decide_eq_true c0]
        refine ks_if_eqZ (tgt := 175) dX16_work__137 (by decide) rfl (fun h4 => ?_) (fun h4 => ?_)
        · exact absurd h4 (by decide)
        · refine ks_aload_n dX16_work__140 rfl rfl ?_
          refine ks_callV (n := 0) (M' := mX16_locked) (c_rs_locked (d := d + 5) hM hT9 c0 v74) hO cl_X16 rfl kx_2335 kx_2337 kxp_120 kx_30 kx_2338 (by decide +kernel) rfl (by decide) (Nat.le_of_ble_eq_true rfl) rfl dX16_work__141 rfl (fun z5 S5 y5 => ?_)
          obtain ⟨rfl, hr⟩ := y5
          refine ks_goto (tgt := 175) dX16_work__144 (by decide) ?_
          refine ks_ret rfl dX16_work__175 ?_
          exact ⟨rfl, hr.A v80 v82⟩
      · obtain rfl := (y3b c0).symm
        rw [decide_eq_false c0]
        refine ks_if_eqZ (tgt := 175) dX16_work__137 (by decide) rfl (fun h4 => ?_) (fun h4 => ?_)
        · refine ks_ret rfl dX16_work__175 ?_
          exact ⟨rfl, mqA.bad ((mqJ.rf S V F).put (by decide)) (hM.put hT9 (by decide)) (va_up_self _ _ _) (by
            rw [if_neg (fun h => by omega)])⟩
        · exact absurd h4 (by decide)
    · refine ks_tableOut (tgt := 147) dX16_work__21 ((show ∀ q, q < 256 → (q < 166 ∨ 177 < q) → ((nI q).toInt < 166 ∨ 177 < (nI q).toInt) by decide +kernel) _ hop hsw) (by decide) ?_
      obtain ⟨e1, e2⟩ := oe_pf (GD := (gdF Gp G9 L b k p m u e inp)) (LK := (lkB G9 L p e inp)) (op := op) (ops := ops) (xs := xs) (ys := ys) (c := bytL gc pb (pe - pb)) (by omega)
      rw [e1, e2, show opB op nx pb = pb from if_neg (by omega)]
      refine ks_aload_n dX16_work__147 rfl rfl ?_
      refine ks_dup dX16_work__148 rfl rfl ?_
      refine ks_getf (T := TX16) (kf := 74) kx_2442 rfl in_X16 cl_X16 (by decide) hO rfl dX16_work__149 rfl ?_
      refine ks_tv v74 ?_
      refine ks_iload_n dX16_work__152 rfl rfl ?_
      refine ks_sipush (x := nI 167) dX16_work__153 (by decide) rfl ?_
      refine ks_icmp_eqN (tgt := 166) (by omega) (by decide) dX16_work__156 (by decide) rfl (fun h4 => ?_) (fun h4 => ?_)
      · omega
      · refine ks_iload_n dX16_work__159 rfl rfl ?_
        refine ks_sipush (x := nI 185) dX16_work__160 (by decide) rfl ?_
        refine ks_icmp_leN (tgt := 170) (by omega) (by decide) dX16_work__163 (by decide) rfl (fun h6 => ?_) (fun h6 => ?_)
        · refine ks_iconst (x := nI 0) dX16_work__170 (by decide) rfl ?_
          refine ks_ior dX16_work__171 rfl ?_
          refine ks_ti (y := ks_bo false) (by decide) ?_
          refine ks_putf (T := TX16) (kf := 74) kx_2442 rfl in_X16 tyX16_ok nmX16 cl_X16 (by decide) hO (Nat.le_of_ble_eq_true rfl) rfl rfl (ks_bo_z _) rfl dX16_work__172 rfl ?_
          refine md_put mdp_74 ?_
          refine ks_ret rfl dX16_work__175 ?_
          exact ⟨rfl, _, F, xs, ys, (mqJ.rf S V F).put (by decide), hM.put hT9 (by decide), .inl ⟨va_up_self _ _ _, by first | rfl | exact pf_hi (by omega), (va_up_ne _ _ (by decide)).trans v80, (va_up_ne _ _ (by decide)).trans v82⟩⟩
        · refine ks_iconst (x := nI 1) dX16_work__166 (by decide) rfl ?_
          refine ks_goto (tgt := 171) dX16_work__167 (by decide) ?_
          refine ks_ior dX16_work__171 rfl ?_
          refine ks_ti (y := ks_bo true) (by decide) ?_
          refine ks_putf (T := TX16) (kf := 74) kx_2442 rfl in_X16 tyX16_ok nmX16 cl_X16 (by decide) hO (Nat.le_of_ble_eq_true rfl) rfl rfl (ks_bo_z _) rfl dX16_work__172 rfl ?_
          refine md_put mdp_74 ?_
          refine ks_ret rfl dX16_work__175 ?_
          exact ⟨rfl, mqA.bad ((mqJ.rf S V F).put (by decide)) (hM.put hT9 (by decide)) (va_up_self _ _ _) (by first | rfl | exact pf_no (by omega))⟩
  · obtain ⟨e1, e2⟩ := oe_pf (GD := (gdF Gp G9 L b k p m u e inp)) (LK := (lkB G9 L p e inp)) (op := op) (ops := ops) (xs := xs) (ys := ys) (c := bytL gc pb (pe - pb)) (by omega)
    rw [e1, e2, pf_rk ⟨h139, by omega⟩, show opB op nx pb = pb from if_neg (by omega)]
    refine ks_aload_n dX16_work__14 rfl rfl ?_
    refine ks_iload_n dX16_work__15 rfl rfl ?_
    refine ks_callV (n := 1) (M' := mX16_reckon) (c_rs_reckon (d := d + 3) hO hK (op := op) ⟨h139, by omega⟩ hnb hl v74) hO cl_X16 rfl kx_2192 kx_2194 kxp_93 kx_30 kx_2195 (by decide +kernel) rfl (by decide) (Nat.le_of_ble_eq_true rfl) rfl dX16_work__16 rfl (fun z2 S2 y2 => ?_)
    obtain ⟨rfl, hr⟩ := y2
    refine ks_ret rfl dX16_work__19 ?_
    exact ⟨rfl, (hr.mq hM hT9).A v80 v82⟩
