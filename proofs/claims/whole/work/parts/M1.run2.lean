/-! THE REFERENCE: run, its step and the whole -/
theorem szO_hi {g : Nat → Nat} {i : Nat} (h : 78 < g i) : szO g i = 0 := by
  unfold szO hdS
  rw [if_neg (by omega), if_neg (by omega), if_neg (by omega), if_neg (by omega)]
  rfl
theorem bhK.r {S S1 : ks_S} {V V1 : Nat → Value} {F : Nat} (h : bhK S S1 V V1) : rrK S S1 V V1 F F := ⟨(sfK.of h.1).mono (by decide), fun j a => h.2.2 j (fun q => a (by rw [q]; decide))⟩
theorem mqS.bh {S S1 : ks_S} {V : Nat → Value} {F : Nat} {xs ys : List (List Nat)} {vs : Vs} {Gp : Pt} {P y N L t b k p m u e inp : Nat} {G9 : Nat → Nat} {V1 : Nat → Value} (h : mqS S V F xs ys vs Gp P y N G9 L t b k p m u e inp) (hT9 : mqT P y N G9 k u e inp) (hu : bhK S S1 V V1) : mqS S1 V1 F xs ys vs Gp P y N G9 L t b k p m u e inp := h.obj hT9 hu.1 hu.2.1 (fun j hj => hu.2.2 j (fun q => absurd (q ▸ hj) (by decide)))
theorem alwO_no {op n ops : Nat} (h : (n ≤ 520 ∨ 78 < op) → 78 < op ∧ (201 < opsN op ops ∨ badO op = true)) : alwO op n ops = false := by
  unfold alwO
  by_cases h78 : op ≤ 78
  · rw [if_pos h78]
    exact decide_eq_false (fun hn => by have := (h (.inl hn)).1; omega)
  · rw [if_neg h78]
    rcases (h (.inr (by omega))).2 with h1 | h1
    · rw [decide_eq_false (by omega), Bool.false_and]
    · rw [h1, Bool.not_true, Bool.and_false]
theorem alwO_yes {op n ops : Nat} (h1 : n ≤ 520) (h2 : opsN op ops ≤ 201) (h3 : badO op = false) : alwO op n ops = true := by
  unfold alwO
  by_cases h78 : op ≤ 78
  · rw [if_pos h78]
    exact decide_eq_true h1
  · rw [if_neg h78, decide_eq_true h2, h3]
    rfl
theorem badO_lo {op : Nat} (h : badO op = true) : 78 < op := by
  have := of_decide_eq_true h
  omega
/-- the other stack is emptied -/
theorem mqS.alt0 {S : ks_S} {V : Nat → Value} {F : Nat} {xs ys : List (List Nat)} {vs : Vs} {Gp : Pt} {P y N L t b k p m u e inp : Nat} {G9 : Nat → Nat} (h : mqS S V F xs ys vs Gp P y N G9 L t b k p m u e inp) (hT9 : mqT P y N G9 k u e inp) : mqS (ks_set S 290 (rfE (va_up V 70 (.int (nI 0))))) (va_up V 70 (.int (nI 0))) F xs [] vs Gp P y N G9 L t b k p m u e inp := by
  have hO := h.1
  obtain ⟨T, sz, oz, vz, ⟨h1, h2, ⟨a1, a2, a3⟩, ⟨b1, b2, b3⟩, h5, h6, h7⟩, e, g, kg, h8⟩ := id h.2.1
  have hu : ks_up S (ks_set S 290 (rfE (va_up V 70 (.int (nI 0))))) [290] := ks_up_set _ _ (by decide)
  obtain ⟨dn, h9⟩ := h.2.2.2.2.2.2
  have hx : ∀ x ∈ ([290] : List Nat), ∃ e, S.2.2 x = some e ∧ ∀ g, e ≠ kB 520 g := fun x hx => by
    rw [List.mem_singleton] at hx
    subst hx
    exact ⟨_, hO, fun g h => by cases h⟩
  have K0 : rsK S (va_up V 70 (.int (nI 0))) T sz oz vz xs [] vs := ⟨h1, h2, ⟨(va_up_ne _ _ (by decide)).trans a1, va_up_self _ _ _, (va_up_ne _ _ (by decide)).trans a3⟩, ⟨b1, Nat.zero_le _, b3⟩, h5, fun i hi => absurd hi (Nat.not_lt_zero _), h7⟩
  exact h.bc hT9 (sfK.of (hu.mono (by decide))) (ks_set_same _ _ _) (fun j hj => va_up_ne _ _ (by omega)) ⟨T, sz, oz, vz, K0.up hu (by decide) hx, e, g, kg, hu.at h8 (by decide)⟩ ⟨dn, hu.at h9 (by decide)⟩
set_option maxRecDepth 100000 in
set_option maxHeartbeats 1600000 in
theorem l_rrStep {l : Launch} {G : ks_G} {d : Nat} {S : ks_S} {V : Nat → Value} {F : Nat} {xs ys : List (List Nat)} {vs : Vs} {Gp : Pt} {P y N L t b k p m u e inp : Nat} {G9 : Nat → Nat} (hT9 : mqT P y N G9 k u e inp) {S0 : ks_S} {V0 : Nat → Value} {F0 : Nat} {P9 : Option Value → ks_S → Prop} {cy Nc till pb pos f : Nat} {gc : Nat → Nat} {cs : List Bool} (hck : cdK vs cy Nc till gc) (hb9 : pb ≤ till ∧ till - pb ≤ 1600) (hp16 : till - pos ≤ 1600) {ops : Nat} (hcd : cdQ S cy Nc till gc) (hI : rrI S0 S V0 V F0 F vs Gp P y N G9 L t b k p m u e inp cy till (pb) (ops) xs ys cs) (hpos : pos < till) (hnx : ∀ (S2 : ks_S) (V2 : Nat → Value) (F2 pos2 pb2 ops2 : Nat) (xs2 ys2 : List (List Nat)) (cs2 : List Bool), pos < pos2 → pos2 ≤ till → pb2 ≤ till → till - pb2 ≤ 1600 → rrI S0 S2 V0 V2 F0 F2 vs Gp P y N G9 L t b k p m u e inp cy till (pb2) (ops2) xs2 ys2 cs2 → (rnS (gdF Gp G9 L b k p m u e inp) (lkB G9 L p e inp) (f + 1) (bytL gc pos (till - pos)) (bytL gc pb (till - pb)) ops xs ys cs) = rnS (gdF Gp G9 L b k p m u e inp) (lkB G9 L p e inp) f (bytL gc pos2 (till - pos2)) (bytL gc pb2 (till - pb2)) ops2 xs2 ys2 cs2 → ks_X l G mX16_run (d + 11) 40 [(0, .ref 290), (1, .ref cy), (4, .int (nI pos2))] [] S2 P9) (hno : ∀ (S2 : ks_S) (V2 : Nat → Value) (F2 : Nat) (xs2 ys2 : List (List Nat)), rrK S0 S2 V0 V2 F0 F2 → mqS S2 V2 F2 xs2 ys2 vs Gp P y N G9 L t b k p m u e inp → (rnS (gdF Gp G9 L b k p m u e inp) (lkB G9 L p e inp) (f + 1) (bytL gc pos (till - pos)) (bytL gc pb (till - pb)) ops xs ys cs) = none → P9 (some (.int (ks_bo false))) S2) : ks_X l G mX16_run (d + 11) 49 [(0, .ref 290), (1, .ref cy), (4, .int (nI pos))] [] S P9 := by
  obtain ⟨hR, hM, hC, ⟨v79, v80, v81, v82, v74⟩, ho2, hcs, hl⟩ := id hI
  obtain ⟨hO, hK, hG, hh, h369, hlow, h368⟩ := id hM
  obtain ⟨gr, kgr, hcr, ecr⟩ := id hcd
  obtain ⟨⟨hcy, hN1, hN2, hN3⟩, -⟩ := id hck
  have hop0 := kgr pos
  obtain ⟨op, eop⟩ : ∃ x, x = gr pos := ⟨_, rfl⟩
  have hop : op < 256 := by rw [eop]; exact hop0
  obtain ⟨r, hr⟩ : ∃ r, rnS (gdF Gp G9 L b k p m u e inp) (lkB G9 L p e inp) (f + 1) (bytL gc pos (till - pos)) (bytL gc pb (till - pb)) ops xs ys cs = r := ⟨_, rfl⟩
  rw [hr] at hnx hno
  have eC : bytL gc pos (till - pos) = op :: bytL gc (pos + 1) (till - pos - 1) := by
    rw [show till - pos = (till - pos - 1) + 1 by omega, bytL_cons, eop, ecr pos hpos]
    rfl
  have eB : bytL gr pos (till - pos) = bytL gc pos (till - pos) := bytL_c (fun j hj => ecr _ (by omega))
  rw [eC, rnS, ← eC] at hr
  refine ks_aload_n dX16_run_49 rfl rfl ?_
  refine ks_iload dX16_run_50 rfl rfl ?_
  refine ks_baldB (i := pos) hcr rfl (by omega) (by omega) dX16_run_52 rfl ?_
  refine ks_sipush (x := nI 255) dX16_run_53 (by decide) rfl ?_
  refine ks_andB (kgr _) dX16_run_56 rfl ?_
  have hy56 : gr pos < 256 := (kgr _)
  rw [← eop]
  refine ks_istore dX16_run_57 (by decide) rfl ?_
  refine ks_sub [(5, _), (0, _), (1, _), (4, _)] rfl ?_
  refine ks_aload_n dX16_run_59 rfl rfl ?_
  refine ks_aload_n dX16_run_60 rfl rfl ?_
  refine ks_iload dX16_run_61 rfl rfl ?_
  refine ks_aload_n dX16_run_63 rfl rfl ?_
  refine ks_getf (T := TX16) (kf := 81) kx_2449 rfl in_X16 cl_X16 (by decide) hO rfl dX16_run_64 rfl ?_
  refine ks_tv v81 ?_
  refine ks_callV (n := 3) (M' := mX16_behind) (c_md_behind (d := d + 9) hO hcr kgr hN2 hN3 hpos) hO cl_X16 rfl kx_2154 kx_2156 kxp_85 kx_30 kx_2157 (by decide +kernel) rfl (by decide) (Nat.le_of_ble_eq_true rfl) rfl dX16_run_67 rfl (fun z2 S2 y2 => ?_)
  obtain ⟨rfl, V2, K2, hs⟩ := y2
  have M2 := hM.bh hT9 K2
  have R2 := hR.trans (K2.r (F := F))
  rcases aftI_cases gr pos till with ⟨an, ae⟩ | ⟨k9, an, ae, k1, k2, k3⟩
  · rw [ae]
    rw [eB] at an
    rw [an] at hr
    refine ks_istore dX16_run_70 (by decide) rfl ?_
    refine ks_sub [(6, _), (0, _), (1, _), (4, _), (5, _)] rfl ?_
    refine ks_iload dX16_run_72 rfl rfl ?_
    refine ks_if_lt (tgt := 87) dX16_run_74 (by decide) rfl (fun h3 => ?_) (fun h3 => ?_)
    · refine ks_iconst (x := nI 0) dX16_run_87 (by decide) rfl ?_
      refine ks_zret rfl rfl dX16_run_88 ?_
      exact hno S2 V2 F xs ys R2 M2 hr.symm
    · exact absurd (show ((-1 : Int32) < 0) by decide) h3
  · rw [ae]
    have w63 := hs k9 an
    have ek := afL_at (g := gr) hpos
    rw [an] at ek
    have ek2 : k9 = hdS op + szO gr pos := by
      split at ek
      · cases ek
      · split at ek
        · cases ek
        · rw [eop]; exact Option.some.inj ek
    rw [eB] at an
    rw [an] at hr
    simp only [] at hr
    obtain ⟨pn, epn⟩ : ∃ x, x = szO gr pos := ⟨_, rfl⟩
    rw [← epn] at w63 ek2
    have hpn0 : 78 < op → pn = 0 := fun h => by rw [epn]; exact szO_hi (by rw [← eop]; exact h)
    have hd1 := hdS_b op
    rw [show k9 - hdS op = pn by omega, bytL_drop gc pos k2, bytL_take gc pos k2, bytL_drop gc pos (show hdS op ≤ k9 by omega), show till - pos - k9 = till - (pos + k9) by omega, show k9 - hdS op = pn by omega] at hr
    obtain ⟨nx, enx⟩ : ∃ x, x = pos + k9 := ⟨_, rfl⟩
    rw [← enx] at hr ⊢
    rw [show pos + hdS op = nx - pn by omega] at hr
    have hv2 : ∀ j, j ≠ 63 → V2 j = V j := K2.2.2
    have C2 := hC.sf (sfK.of (F := 0) K2.1) (by decide) (hv2 _ (by decide))
    have cd2 := hcd.step hck (sfK.of (F := 0) K2.1) (by decide) M2.2.1
    have x82 := (hv2 82 (by decide)).trans v82
    refine ks_istore dX16_run_70 (by decide) rfl ?_
    refine ks_sub [(6, _), (0, _), (1, _), (4, _), (5, _)] rfl ?_
    refine ks_iload dX16_run_72 rfl rfl ?_
    refine ks_if_ltN (tgt := 87) (by omega) dX16_run_74 (by decide) rfl ?_
    refine ks_aload_n dX16_run_77 rfl rfl ?_
    refine ks_getf (T := TX16) (kf := 63) kx_2431 rfl in_X16 cl_X16 (by decide) M2.1 rfl dX16_run_78 rfl ?_
    refine ks_tv w63 ?_
    refine ks_sipush (x := nI 520) dX16_run_81 (by decide) rfl ?_
    refine ks_icmp_leN (tgt := 89) (by omega) (by decide) dX16_run_84 (by decide) rfl (fun h4 => ?_) (fun h4 => ?_)
    · refine ks_iload dX16_run_89 rfl rfl ?_
      refine ks_bipush (x := nI 96) dX16_run_91 (by decide) rfl ?_
      refine ks_icmp_leN (tgt := 106) (by omega) (by decide) dX16_run_93 (by decide) rfl (fun h5 => ?_) (fun h5 => ?_)
      · have eo : opsN op ops = ops := if_neg (by omega)
        have M3 := M2
        have R3 := R2
        refine ks_aload_n dX16_run_106 rfl rfl ?_
        refine ks_getf (T := TX16) (kf := 82) kx_2450 rfl in_X16 cl_X16 (by decide) M2.1 rfl dX16_run_107 rfl ?_
        refine ks_tv x82 ?_
        refine ks_sipush (x := nI 201) dX16_run_110 (by decide) rfl ?_
        refine ks_icmp_gtN (tgt := 124) (by omega) (by decide) dX16_run_113 (by decide) rfl (fun h6 => ?_) (fun h6 => ?_)
        · omega
        · refine ks_iload dX16_run_116 rfl rfl ?_
          refine ks_callS (n := 1) (M' := mX16_never) (c_md_never (d := d + 10) (op := op) hop) kx_2158 kx_2159 kx_30 kx_2160 (by decide +kernel) rfl (by decide) (Nat.le_of_ble_eq_true rfl) rfl dX16_run_118 rfl (fun z7 S7 y7 => ?_)
          obtain ⟨rfl, hT7⟩ := y7
          obtain rfl := hT7.symm
          refine ks_if_eqZ (tgt := 126) dX16_run_121 (by decide) rfl (fun h7 => ?_) (fun h7 => ?_)
          · rw [if_pos (alwO_yes (by omega) (by omega) h7), eo] at hr
            have er : r = (if 99 ≤ op ∧ op ≤ 104 then (match brS op xs cs with | none => none | some q => if 1000 < q.1.length + ys.length then none else rnS (gdF Gp G9 L b k p m u e inp) (lkB G9 L p e inp) f (bytL gc nx (till - nx)) (bytL gc (pb) (till - (pb))) (ops) q.1 ys q.2) else if clN cs = 0 then (match (if op ≤ 78 then some (bytL gc (nx - pn) pn :: xs, ys) else opE (gdF Gp G9 L b k p m u e inp) (lkB G9 L p e inp) op xs ys ops (bytL gc pb (till - pb))) with | none => none | some q => if 1000 < q.1.length + q.2.length then none else rnS (gdF Gp G9 L b k p m u e inp) (lkB G9 L p e inp) f (bytL gc nx (till - nx)) (bytL gc (opB op nx pb) (till - (opB op nx pb))) (opO op xs ops) q.1 q.2 cs) else rnS (gdF Gp G9 L b k p m u e inp) (lkB G9 L p e inp) f (bytL gc nx (till - nx)) (bytL gc (pb) (till - (pb))) (ops) xs ys cs) := by
              rw [← hr]
              by_cases h171 : op = 171
              · unfold opE opB opO
                rw [if_pos h171, if_pos h171]
                rfl
              · unfold opE opB opO
                rw [if_neg h171, if_neg h171]
                rfl
            rw [er] at hnx hno
            have hnb9 : badO op = false := h7
            refine ks_sub [(0, _), (1, _), (4, _), (5, _), (6, _)] rfl ?_
            exact l_rrC hT9 hck hb9 hp16 cd2 R3 M3 C2 ⟨(hv2 79 (by decide)).trans v79, (hv2 80 (by decide)).trans v80, (hv2 81 (by decide)).trans v81, x82, (hv2 74 (by decide)).trans v74⟩ (w63) (by omega) ⟨by omega, fun h => by omega⟩ hl hop hnb9 ⟨by omega, by omega⟩ (by omega) (by omega) hnx hno
          · refine ks_iconst (x := nI 0) dX16_run_124 (by decide) rfl ?_
            refine ks_zret rfl rfl dX16_run_125 ?_
            have an0 : alwO op pn ops = false := alwO_no (fun h => ⟨badO_lo h7, .inr h7⟩)
            refine hno _ _ F xs ys R3 M3 ?_
            rw [← hr, if_neg (by rw [an0]; decide)]
      · have eo : opsN op ops = ops + 1 := if_pos (by omega)
        have M3 := (M2.put hT9 (j := 82) (v := .int (nI (ops + 1))) (by decide))
        have R3 := (R2.put (j := 82) (v := .int (nI (ops + 1))) (by decide))
        refine ks_aload_n dX16_run_96 rfl rfl ?_
        refine ks_dup dX16_run_97 rfl rfl ?_
        refine ks_getf (T := TX16) (kf := 82) kx_2450 rfl in_X16 cl_X16 (by decide) M2.1 rfl dX16_run_98 rfl ?_
        refine ks_tv x82 ?_
        refine ks_iconst (x := nI 1) dX16_run_101 (by decide) rfl ?_
        refine ks_addN dX16_run_102 rfl ?_
        refine ks_putf (T := TX16) (kf := 82) kx_2450 rfl in_X16 tyX16_ok nmX16 cl_X16 (by decide) M2.1 (Nat.le_of_ble_eq_true rfl) rfl rfl rfl rfl dX16_run_103 rfl ?_
        refine md_put mdp_82 ?_
        refine ks_aload_n dX16_run_106 rfl rfl ?_
        refine ks_getf (T := TX16) (kf := 82) kx_2450 rfl in_X16 cl_X16 (by decide) (ks_set_same _ _ _) rfl dX16_run_107 rfl ?_
        refine ks_tv (va_up_self _ _ _) ?_
        refine ks_sipush (x := nI 201) dX16_run_110 (by decide) rfl ?_
        refine ks_icmp_gtN (tgt := 124) (by omega) (by decide) dX16_run_113 (by decide) rfl (fun h6 => ?_) (fun h6 => ?_)
        · refine ks_iconst (x := nI 0) dX16_run_124 (by decide) rfl ?_
          refine ks_zret rfl rfl dX16_run_125 ?_
          have an0 : alwO op pn ops = false := alwO_no (fun h => by
            refine ⟨?_, .inl (by omega)⟩
            rcases h with h | h <;> omega)
          refine hno _ _ F xs ys R3 M3 ?_
          rw [← hr, if_neg (by rw [an0]; decide)]
        · refine ks_iload dX16_run_116 rfl rfl ?_
          refine ks_callS (n := 1) (M' := mX16_never) (c_md_never (d := d + 10) (op := op) hop) kx_2158 kx_2159 kx_30 kx_2160 (by decide +kernel) rfl (by decide) (Nat.le_of_ble_eq_true rfl) rfl dX16_run_118 rfl (fun z7 S7 y7 => ?_)
          obtain ⟨rfl, hT7⟩ := y7
          obtain rfl := hT7.symm
          refine ks_if_eqZ (tgt := 126) dX16_run_121 (by decide) rfl (fun h7 => ?_) (fun h7 => ?_)
          · rw [if_pos (alwO_yes (by omega) (by omega) h7), eo] at hr
            have er : r = (if 99 ≤ op ∧ op ≤ 104 then (match brS op xs cs with | none => none | some q => if 1000 < q.1.length + ys.length then none else rnS (gdF Gp G9 L b k p m u e inp) (lkB G9 L p e inp) f (bytL gc nx (till - nx)) (bytL gc (pb) (till - (pb))) ((ops + 1)) q.1 ys q.2) else if clN cs = 0 then (match (if op ≤ 78 then some (bytL gc (nx - pn) pn :: xs, ys) else opE (gdF Gp G9 L b k p m u e inp) (lkB G9 L p e inp) op xs ys (ops + 1) (bytL gc pb (till - pb))) with | none => none | some q => if 1000 < q.1.length + q.2.length then none else rnS (gdF Gp G9 L b k p m u e inp) (lkB G9 L p e inp) f (bytL gc nx (till - nx)) (bytL gc (opB op nx pb) (till - (opB op nx pb))) (opO op xs (ops + 1)) q.1 q.2 cs) else rnS (gdF Gp G9 L b k p m u e inp) (lkB G9 L p e inp) f (bytL gc nx (till - nx)) (bytL gc (pb) (till - (pb))) ((ops + 1)) xs ys cs) := by
              rw [← hr]
              by_cases h171 : op = 171
              · unfold opE opB opO
                rw [if_pos h171, if_pos h171]
                rfl
              · unfold opE opB opO
                rw [if_neg h171, if_neg h171]
                rfl
            rw [er] at hnx hno
            have hnb9 : badO op = false := h7
            have C3 := C2.sf (S1 := ks_set S2 290 (rfE (va_up V2 82 (.int (nI (ops + 1)))))) (V1 := va_up V2 82 (.int (nI (ops + 1)))) (sfK.of (F := 0) (ks_up_set _ _ (a := 290) (L := [290]) (by decide))) (by decide) (va_up_ne _ _ (by decide))
            have cd3 := cd2.step hck (sfK.of (F := 0) (ks_up_set S2 (rfE (va_up V2 82 (.int (nI (ops + 1))))) (a := 290) (L := [290]) (by decide))) (by decide) M3.2.1
            refine ks_sub [(0, _), (1, _), (4, _), (5, _), (6, _)] rfl ?_
            exact l_rrC hT9 hck hb9 hp16 cd3 R3 M3 C3 ⟨(va_up_ne _ _ (by decide)).trans ((hv2 79 (by decide)).trans v79), (va_up_ne _ _ (by decide)).trans ((hv2 80 (by decide)).trans v80), (va_up_ne _ _ (by decide)).trans ((hv2 81 (by decide)).trans v81), va_up_self _ _ _, (va_up_ne _ _ (by decide)).trans ((hv2 74 (by decide)).trans v74)⟩ ((va_up_ne _ _ (by decide)).trans w63) (by omega) ⟨by omega, fun h => by omega⟩ hl hop hnb9 ⟨by omega, by omega⟩ (by omega) (by omega) hnx hno
          · refine ks_iconst (x := nI 0) dX16_run_124 (by decide) rfl ?_
            refine ks_zret rfl rfl dX16_run_125 ?_
            have an0 : alwO op pn ops = false := alwO_no (fun h => ⟨badO_lo h7, .inr h7⟩)
            refine hno _ _ F xs ys R3 M3 ?_
            rw [← hr, if_neg (by rw [an0]; decide)]
    · refine ks_iconst (x := nI 0) dX16_run_87 (by decide) rfl ?_
      refine ks_zret rfl rfl dX16_run_88 ?_
      have an0 : alwO op pn ops = false := alwO_no (fun h => by
        rcases h with h | h
        · omega
        · have := hpn0 h
          omega)
      refine hno _ _ F xs ys R2 M2 ?_
      rw [← hr, if_neg (by rw [an0]; decide)]
set_option maxRecDepth 100000 in
set_option maxHeartbeats 800000 in
theorem l_rrLoop {l : Launch} {G : ks_G} {d : Nat} {vs : Vs} {Gp : Pt} {P y N L t b k p m u e inp : Nat} {G9 : Nat → Nat} (hT9 : mqT P y N G9 k u e inp) {S0 : ks_S} {V0 : Nat → Value} {F0 cy Nc till : Nat} {gc : Nat → Nat} (hck : cdK vs cy Nc till gc) (hcd : cdQ S0 cy Nc till gc) : ∀ (f : Nat) (S : ks_S) (V : Nat → Value) (F pos pb ops : Nat) (xs ys : List (List Nat)) (cs : List Bool), till - pos ≤ f → pos ≤ till → till - pos ≤ 1600 → pb ≤ till → till - pb ≤ 1600 → rrI S0 S V0 V F0 F vs Gp P y N G9 L t b k p m u e inp cy till (pb) (ops) xs ys cs → ks_X l G mX16_run (d + 11) 40 [(0, .ref 290), (1, .ref cy), (4, .int (nI pos))] [] S (fun z S' => z = some (.int (ks_bo ((rnS (gdF Gp G9 L b k p m u e inp) (lkB G9 L p e inp) f (bytL gc pos (till - pos)) (bytL gc pb (till - pb)) ops xs ys cs)).isSome)) ∧ ∃ V' F' xs' ys', rrK S0 S' V0 V' F0 F' ∧ mqS S' V' F' xs' ys' vs Gp P y N G9 L t b k p m u e inp ∧ ∀ q, (rnS (gdF Gp G9 L b k p m u e inp) (lkB G9 L p e inp) f (bytL gc pos (till - pos)) (bytL gc pb (till - pb)) ops xs ys cs) = some q → q = (xs', ys') ∧ xs'.length ≤ 1000) := by
  intro f
  induction f with
  | zero =>
    intro S V F pos pb ops xs ys cs hf hpt hp16 hb1 hb2 hI
    obtain ⟨hR, hM, hC, ⟨v79, v80, v81, v82, v74⟩, ho2, hcs, hl⟩ := id hI
    obtain ⟨⟨hcy, hN1, hN2, hN3⟩, -⟩ := id hck
    obtain ⟨dn, e368, v84, ecs, bcs⟩ := id hC
    refine ks_iload dX16_run_40 rfl rfl ?_
    refine ks_aload_n dX16_run_42 rfl rfl ?_
    refine ks_getf (T := TX16) (kf := 81) kx_2449 rfl in_X16 cl_X16 (by decide) hM.1 rfl dX16_run_43 rfl ?_
    refine ks_tv v81 ?_
    refine ks_icmp_geN (tgt := 243) (by omega) (by omega) dX16_run_46 (by decide) rfl (fun h1 => ?_) (fun h1 => ?_)
    · obtain rfl : pos = till := by omega
      rw [Nat.sub_self, show bytL gc pos 0 = [] from rfl, rnS_nil]
      refine ks_aload_n dX16_run_243 rfl rfl ?_
      refine ks_getf (T := TX16) (kf := 84) kx_2452 rfl in_X16 cl_X16 (by decide) hM.1 rfl dX16_run_244 rfl ?_
      refine ks_tv v84 ?_
      refine ks_if_neN (tgt := 254) (by omega) dX16_run_247 (by decide) rfl (fun h2 => ?_) (fun h2 => ?_)
      · refine ks_iconst (x := nI 0) dX16_run_254 (by decide) rfl ?_
        refine ks_zret rfl rfl dX16_run_255 ?_
        rw [if_neg (fun h => h2 (by rw [h]; rfl))]
        exact ⟨rfl, V, F, xs, ys, hR, hM, fun q hq => by cases hq⟩
      · refine ks_iconst (x := nI 1) dX16_run_250 (by decide) rfl ?_
        refine ks_goto (tgt := 255) dX16_run_251 (by decide) ?_
        refine ks_zret rfl rfl dX16_run_255 ?_
        have hc0 : cs = [] := List.eq_nil_of_length_eq_zero h2
        rw [if_pos hc0]
        exact ⟨rfl, V, F, xs, ys, hR, hM, fun q hq => by cases hq; exact ⟨rfl, by omega⟩⟩
    · omega
  | succ f ih =>
    intro S V F pos pb ops xs ys cs hf hpt hp16 hb1 hb2 hI
    obtain ⟨hR, hM, hC, ⟨v79, v80, v81, v82, v74⟩, ho2, hcs, hl⟩ := id hI
    obtain ⟨⟨hcy, hN1, hN2, hN3⟩, -⟩ := id hck
    obtain ⟨dn, e368, v84, ecs, bcs⟩ := id hC
    refine ks_iload dX16_run_40 rfl rfl ?_
    refine ks_aload_n dX16_run_42 rfl rfl ?_
    refine ks_getf (T := TX16) (kf := 81) kx_2449 rfl in_X16 cl_X16 (by decide) hM.1 rfl dX16_run_43 rfl ?_
    refine ks_tv v81 ?_
    refine ks_icmp_geN (tgt := 243) (by omega) (by omega) dX16_run_46 (by decide) rfl (fun h1 => ?_) (fun h1 => ?_)
    · obtain rfl : pos = till := by omega
      rw [Nat.sub_self, show bytL gc pos 0 = [] from rfl, rnS_nil]
      refine ks_aload_n dX16_run_243 rfl rfl ?_
      refine ks_getf (T := TX16) (kf := 84) kx_2452 rfl in_X16 cl_X16 (by decide) hM.1 rfl dX16_run_244 rfl ?_
      refine ks_tv v84 ?_
      refine ks_if_neN (tgt := 254) (by omega) dX16_run_247 (by decide) rfl (fun h2 => ?_) (fun h2 => ?_)
      · refine ks_iconst (x := nI 0) dX16_run_254 (by decide) rfl ?_
        refine ks_zret rfl rfl dX16_run_255 ?_
        rw [if_neg (fun h => h2 (by rw [h]; rfl))]
        exact ⟨rfl, V, F, xs, ys, hR, hM, fun q hq => by cases hq⟩
      · refine ks_iconst (x := nI 1) dX16_run_250 (by decide) rfl ?_
        refine ks_goto (tgt := 255) dX16_run_251 (by decide) ?_
        refine ks_zret rfl rfl dX16_run_255 ?_
        have hc0 : cs = [] := List.eq_nil_of_length_eq_zero h2
        rw [if_pos hc0]
        exact ⟨rfl, V, F, xs, ys, hR, hM, fun q hq => by cases hq; exact ⟨rfl, by omega⟩⟩
    · have cdn := hcd.step hck hR.1 (by decide) hM.2.1
      refine l_rrStep (f := f) hT9 hck ⟨hb1, hb2⟩ hp16 cdn hI (by omega) (fun S2 V2 F2 pos2 pb2 ops2 xs2 ys2 cs2 h1 h2 h3 h4 h5 h6 => ?_) (fun S2 V2 F2 xs2 ys2 h1 h2 h3 => ?_)
      · rw [h6]
        exact ih S2 V2 F2 pos2 pb2 ops2 xs2 ys2 cs2 (by omega) h2 (by omega) h3 h4 h5
      · rw [h3]
        exact ⟨rfl, V2, F2, xs2, ys2, h1, h2, fun q hq => by cases hq⟩
set_option maxRecDepth 100000 in
set_option maxHeartbeats 800000 in
theorem c_rs_run {l : Launch} {G : ks_G} {d : Nat} {S : ks_S} {V : Nat → Value} {F : Nat} {xs ys : List (List Nat)} {vs : Vs} {Gp : Pt} {P y N L t b k p m u e inp : Nat} {G9 : Nat → Nat} (hM : mqS S V F xs ys vs Gp P y N G9 L t b k p m u e inp) (hT9 : mqT P y N G9 k u e inp) {cy Nc fr n : Nat} {gc : Nat → Nat} (hck : cdK vs cy Nc (fr + n) gc) (hcd : cdQ S cy Nc (fr + n) gc) (hn : n ≤ 1600) (hx : xs.length ≤ 1000) : ks_P l G yX16_run mX16_run (d + 11) [.ref 290, .ref cy, .int (nI fr), .int (nI n)] S (fun z S' => z = some (.int (ks_bo ((rnW (gdF Gp G9 L b k p m u e inp) (lkB G9 L p e inp) (bytL gc fr n) xs)).isSome)) ∧ ∃ V' F' xs' ys', rrK S S' V V' F F' ∧ mqS S' V' F' xs' ys' vs Gp P y N G9 L t b k p m u e inp ∧ ∀ q, (rnW (gdF Gp G9 L b k p m u e inp) (lkB G9 L p e inp) (bytL gc fr n) xs) = some q → q = (xs', ys') ∧ xs'.length ≤ 1000) := by
  obtain ⟨hO, hK, hG, hh, h369, hlow, h368⟩ := id hM
  refine ks_of (by decide) rfl rfl (Nat.le_of_ble_eq_true rfl) ?_
  show ks_X l G mX16_run (d + 11) 0 [(0, .ref 290), (1, .ref cy), (2, .int (nI fr)), (3, .int (nI n))] [] S _
  refine ks_aload_n dX16_run_0 rfl rfl ?_
  refine ks_aload_n dX16_run_1 rfl rfl ?_
  refine ks_putf (T := TX16) (kf := 79) kx_2447 rfl in_X16 tyX16_ok nmX16 cl_X16 (by decide) hO (Nat.le_of_ble_eq_true rfl) rfl rfl rfl rfl dX16_run_2 rfl ?_
  refine md_put mdp_79 ?_
  refine ks_aload_n dX16_run_5 rfl rfl ?_
  refine ks_iload_n dX16_run_6 rfl rfl ?_
  refine ks_putf (T := TX16) (kf := 80) kx_2448 rfl in_X16 tyX16_ok nmX16 cl_X16 (by decide) (ks_set_same _ _ _) (Nat.le_of_ble_eq_true rfl) rfl rfl rfl rfl dX16_run_7 rfl ?_
  refine md_put mdp_80 ?_
  refine ks_aload_n dX16_run_10 rfl rfl ?_
  refine ks_iload_n dX16_run_11 rfl rfl ?_
  refine ks_iload_n dX16_run_12 rfl rfl ?_
  refine ks_addN dX16_run_13 rfl ?_
  refine ks_putf (T := TX16) (kf := 81) kx_2449 rfl in_X16 tyX16_ok nmX16 cl_X16 (by decide) (ks_set_same _ _ _) (Nat.le_of_ble_eq_true rfl) rfl rfl rfl rfl dX16_run_14 rfl ?_
  refine md_put mdp_81 ?_
  refine ks_aload_n dX16_run_17 rfl rfl ?_
  refine ks_iconst (x := nI 0) dX16_run_18 (by decide) rfl ?_
  refine ks_putf (T := TX16) (kf := 82) kx_2450 rfl in_X16 tyX16_ok nmX16 cl_X16 (by decide) (ks_set_same _ _ _) (Nat.le_of_ble_eq_true rfl) rfl rfl rfl rfl dX16_run_19 rfl ?_
  refine md_put mdp_82 ?_
  refine ks_aload_n dX16_run_22 rfl rfl ?_
  refine ks_iconst (x := nI 0) dX16_run_23 (by decide) rfl ?_
  refine ks_putf (T := TX16) (kf := 70) kx_2438 rfl in_X16 tyX16_ok nmX16 cl_X16 (by decide) (ks_set_same _ _ _) (Nat.le_of_ble_eq_true rfl) rfl rfl rfl rfl dX16_run_24 rfl ?_
  refine md_put mdp_70 ?_
  refine ks_aload_n dX16_run_27 rfl rfl ?_
  refine ks_iconst (x := nI 0) dX16_run_28 (by decide) rfl ?_
  refine ks_putf (T := TX16) (kf := 84) kx_2452 rfl in_X16 tyX16_ok nmX16 cl_X16 (by decide) (ks_set_same _ _ _) (Nat.le_of_ble_eq_true rfl) rfl rfl rfl rfl dX16_run_29 rfl ?_
  refine md_put mdp_84 ?_
  refine ks_aload_n dX16_run_32 rfl rfl ?_
  refine ks_iconst (x := nI 0) dX16_run_33 (by decide) rfl ?_
  refine ks_putf (T := TX16) (kf := 74) kx_2442 rfl in_X16 tyX16_ok nmX16 cl_X16 (by decide) (ks_set_same _ _ _) (Nat.le_of_ble_eq_true rfl) rfl rfl rfl rfl dX16_run_34 rfl ?_
  refine md_put mdp_74 ?_
  refine ks_iload_n dX16_run_37 rfl rfl ?_
  refine ks_istore dX16_run_38 (by decide) rfl ?_
  refine ks_sub [(4, _), (0, _), (1, _), (2, _), (3, _)] rfl ?_
  obtain ⟨⟨hcy, hN1, hN2, hN3⟩, -⟩ := id hck
  have vf : ∀ (j : Nat) (v : Value), j ∈ LMh → j ∉ ([67, 70, 73, 76, 77, 78, 87, 88, 89, 91] : List Nat) → ∀ (S1 : ks_S) (V1 : Nat → Value), rrK S S1 V V1 F F → mqS S1 V1 F xs ys vs Gp P y N G9 L t b k p m u e inp → rrK S (ks_set S1 290 (rfE (va_up V1 j v))) V (va_up V1 j v) F F ∧ mqS (ks_set S1 290 (rfE (va_up V1 j v))) (va_up V1 j v) F xs ys vs Gp P y N G9 L t b k p m u e inp := fun j v h1 h2 S1 V1 h3 h4 => ⟨h3.put h1, h4.put hT9 h2⟩
  obtain ⟨R1, M1⟩ := vf 79 (.ref cy) (by decide) (by decide) _ _ (rrK.rf S V F) hM
  obtain ⟨R2, M2⟩ := vf 80 (.int (nI fr)) (by decide) (by decide) _ _ R1 M1
  obtain ⟨R3, M3⟩ := vf 81 (.int (nI (fr + n))) (by decide) (by decide) _ _ R2 M2
  obtain ⟨R4, M4⟩ := vf 82 (.int (nI 0)) (by decide) (by decide) _ _ R3 M3
  have M5 := M4.alt0 hT9
  have R5 := R4.put (j := 70) (v := .int (nI 0)) (by decide)
  have R6 := R5.put (j := 84) (v := .int (nI 0)) (by decide)
  have M6 := M5.put hT9 (j := 84) (v := .int (nI 0)) (by decide)
  have R7 := R6.put (j := 74) (v := .int (ks_bo false)) (by decide)
  have M7 := M6.put hT9 (j := 74) (v := .int (ks_bo false)) (by decide)
  obtain ⟨dn, e8⟩ := M7.2.2.2.2.2.2
  refine ks_sub [(0, _), (1, _), (4, _)] rfl ?_
  unfold rnW
  rw [bytL_len]
  have e9 := l_rrLoop (l := l) (G := G) (d := d) hT9 (F0 := F) (V0 := V) hck hcd n _ _ _ fr fr 0 xs [] [] (by omega) (by omega) (by omega) (by omega) (by omega) ⟨R7, M7, ⟨dn, e8, ?_, rfl, Nat.zero_le _⟩, ⟨?_, ?_, ?_, ?_, va_up_self _ _ _⟩, Nat.zero_le _, Nat.zero_le _, by show xs.length + 0 ≤ 1000; omega⟩
  · rw [show fr + n - fr = n by omega] at e9
    exact e9
  · exact (va_up_ne _ _ (by decide)).trans (va_up_self _ _ _)
  · exact (va_up_ne _ _ (by decide)).trans ((va_up_ne _ _ (by decide)).trans ((va_up_ne _ _ (by decide)).trans ((va_up_ne _ _ (by decide)).trans ((va_up_ne _ _ (by decide)).trans ((va_up_ne _ _ (by decide)).trans (va_up_self _ _ _))))))
  · exact (va_up_ne _ _ (by decide)).trans ((va_up_ne _ _ (by decide)).trans ((va_up_ne _ _ (by decide)).trans ((va_up_ne _ _ (by decide)).trans ((va_up_ne _ _ (by decide)).trans (va_up_self _ _ _)))))
  · exact (va_up_ne _ _ (by decide)).trans ((va_up_ne _ _ (by decide)).trans ((va_up_ne _ _ (by decide)).trans ((va_up_ne _ _ (by decide)).trans (va_up_self _ _ _))))
  · exact (va_up_ne _ _ (by decide)).trans ((va_up_ne _ _ (by decide)).trans ((va_up_ne _ _ (by decide)).trans (va_up_self _ _ _)))
