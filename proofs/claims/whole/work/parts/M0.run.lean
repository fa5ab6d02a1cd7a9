/-! THE REFERENCE: run -/
abbrev LMx : List Nat := 368 :: LMr
abbrev LMh : List Nat := [79, 80, 81, 82, 84, 40, 41, 63, 67, 70, 74, 87, 88, 89, 91]
def rrK (S S' : ks_S) (V V' : Nat → Value) (F F' : Nat) : Prop := sfK LMx S S' F F' ∧ ∀ k, k ∉ LMh → V' k = V k
theorem rrK.trans {S S1 S2 : ks_S} {V V1 V2 : Nat → Value} {F F1 F2 : Nat} (h : rrK S S1 V V1 F F1) (k : rrK S1 S2 V1 V2 F1 F2) : rrK S S2 V V2 F F2 := ⟨h.1.trans k.1, fun j a => (k.2 j a).trans (h.2 j a)⟩
theorem rrK.rf (S : ks_S) (V : Nat → Value) (F : Nat) : rrK S S V V F F := ⟨sfK.rf _ _ _, fun _ _ => rfl⟩
theorem mqJ.r {S S1 : ks_S} {V V1 : Nat → Value} {F F1 : Nat} (h : mqJ S S1 V V1 F F1) : rrK S S1 V V1 F F1 := ⟨h.1.mono (fun a ha => List.mem_cons_of_mem _ ha), fun j a => h.2 j (fun q => a ((show ∀ x ∈ LMg, x ∈ LMh by decide) j q))⟩
theorem rrK.put {S S1 : ks_S} {V V1 : Nat → Value} {F F1 j : Nat} {v : Value} (h : rrK S S1 V V1 F F1) (hj : j ∈ LMh) : rrK S (ks_set S1 290 (rfE (va_up V1 j v))) V (va_up V1 j v) F F1 := ⟨h.1.trans (sfK.of (ks_up_set _ _ (by decide))), fun k hk => (va_up_ne _ _ (fun q => hk (by rw [q]; exact hj))).trans (h.2 k hk)⟩
theorem bcK.r {S S1 : ks_S} {V V1 : Nat → Value} {F F1 : Nat} (h : bcK S S1 V V1 F F1) : rrK S S1 V V1 F F1 := ⟨h.1.mono (by decide), fun j a => h.2.2 j (fun q => a (by rw [q]; decide)) (fun q => a (by rw [q]; decide)) (fun q => a (by rw [q]; decide)) (fun q => a (by rw [q]; decide))⟩
theorem rcX.sf {S S1 : ks_S} {V V1 : Nat → Value} {cs : List Bool} {L : List Nat} {F F' : Nat} (h : rcX S V cs) (hu : sfK L S S1 F F') (hL : 368 ∉ L) (hv : V1 84 = V 84) : rcX S1 V1 cs := by
  obtain ⟨dn, h1, h2, h3⟩ := h
  exact ⟨dn, hu.at h1 hL, hv.trans h2, h3⟩
/-- before each operation -/
def rrI (S S1 : ks_S) (V V1 : Nat → Value) (F F1 : Nat) (vs : Vs) (Gp : Pt) (P y N : Nat) (G9 : Nat → Nat) (L t b k p m u e inp : Nat) (cy till pb ops : Nat) (xs ys : List (List Nat)) (cs : List Bool) : Prop := rrK S S1 V V1 F F1 ∧ mqS S1 V1 F1 xs ys vs Gp P y N G9 L t b k p m u e inp ∧ rcX S1 V1 cs ∧ (V1 79 = .ref cy ∧ V1 80 = .int (nI pb) ∧ V1 81 = .int (nI till) ∧ V1 82 = .int (nI ops) ∧ V1 74 = .int (ks_bo false)) ∧ ops ≤ 201 ∧ cs.length ≤ ops ∧ xs.length + ys.length ≤ 1000
def adN (dn : Nat → Bool) : Nat → Bool
  | 0 => true
  | n + 1 => adN dn n && dn n
theorem adN_cl (dn : Nat → Bool) : ∀ n, adN dn n = decide (clN (csE dn n) = 0)
  | 0 => rfl
  | n + 1 => by
    show (adN dn n && dn n) = decide (clN (csE dn n) + (if dn n then 0 else 1) = 0)
    rw [adN_cl dn n]
    cases dn n with
    | true => rw [Bool.and_true]; rfl
    | false => rw [Bool.and_false]; exact (decide_eq_false (fun h => absurd h (Nat.succ_ne_zero _))).symm
set_option maxRecDepth 100000 in
set_option maxHeartbeats 800000 in
theorem l_rrCond {l : Launch} {G : ks_G} {d : Nat} {S : ks_S} {V : Nat → Value} {cs : List Bool} {cy pos op nx : Nat} {P9 : Option Value → ks_S → Prop} (hO : S.2.2 290 = some (rfE V)) (hC : rcX S V cs) (hk : ks_X l G mX16_run d 159 [(0, .ref 290), (1, .ref cy), (4, .int (nI pos)), (5, .int (nI op)), (6, .int (nI nx)), (7, .int (ks_bo (decide (clN cs = 0))))] [] S P9) : ks_X l G mX16_run d 132 [(0, .ref 290), (1, .ref cy), (4, .int (nI pos)), (5, .int (nI op)), (6, .int (nI nx)), (7, .int (ks_bo true)), (8, .int (nI 0))] [] S P9 := by
  obtain ⟨dn, e368, v84, ecs, bcs⟩ := hC
  have lp : ∀ (f i : Nat), i + f = cs.length → ks_X l G mX16_run d 132 [(0, .ref 290), (1, .ref cy), (4, .int (nI pos)), (5, .int (nI op)), (6, .int (nI nx)), (7, .int (ks_bo (adN dn i))), (8, .int (nI i))] [] S P9 := by
    intro f
    induction f with
    | zero =>
      intro i hi
      refine ks_iload dX16_run_132 rfl rfl ?_
      refine ks_aload_n dX16_run_134 rfl rfl ?_
      refine ks_getf (T := TX16) (kf := 84) kx_2452 rfl in_X16 cl_X16 (by decide) hO rfl dX16_run_135 rfl ?_
      refine ks_tv v84 ?_
      refine ks_icmp_geN (tgt := 159) (by omega) (by omega) dX16_run_138 (by decide) rfl (fun h1 => ?_) (fun h1 => absurd h1 (by omega))
      have hi9 : i = cs.length := hi
      have ea : adN dn i = decide (clN cs = 0) := by rw [adN_cl, hi9, ← ecs]
      rw [ea]
      exact ks_sub [(0, _), (1, _), (4, _), (5, _), (6, _), (7, _)] rfl hk
    | succ f ih =>
      intro i hi
      refine ks_iload dX16_run_132 rfl rfl ?_
      refine ks_aload_n dX16_run_134 rfl rfl ?_
      refine ks_getf (T := TX16) (kf := 84) kx_2452 rfl in_X16 cl_X16 (by decide) hO rfl dX16_run_135 rfl ?_
      refine ks_tv v84 ?_
      refine ks_icmp_geN (tgt := 159) (by omega) (by omega) dX16_run_138 (by decide) rfl (fun h1 => absurd h1 (by omega)) (fun h1 => ?_)
      refine ks_iload dX16_run_141 rfl rfl ?_
      refine ks_aload_n dX16_run_143 rfl rfl ?_
      refine ks_getf (T := TX16) (kf := 83) kx_2451 rfl in_X16 cl_X16 (by decide) hO rfl dX16_run_144 rfl ?_
      refine ks_iload dX16_run_147 rfl rfl ?_
      refine ks_zaldN (i := i) e368 (by omega) (by decide) dX16_run_149 rfl ?_
      refine ks_iand dX16_run_150 rfl ?_
      refine ks_ti (ks_bo_and _ _) ?_
      refine ks_istore dX16_run_151 (by decide) rfl ?_
      refine ks_sub [(7, _), (0, _), (1, _), (4, _), (5, _), (6, _), (8, _)] rfl ?_
      refine ks_incN (c := 1) (e := i + 1) dX16_run_153 rfl (by decide) rfl (by decide) rfl ?_
      refine ks_sub [(8, _), (0, _), (1, _), (4, _), (5, _), (6, _), (7, _)] rfl ?_
      refine ks_goto (tgt := 132) dX16_run_156 (by decide) ?_
      exact ks_sub [(0, _), (1, _), (4, _), (5, _), (6, _), (7, _), (8, _)] rfl (ih (i + 1) (by omega))
  exact lp cs.length 0 (Nat.zero_add _)
set_option maxRecDepth 100000 in
set_option maxHeartbeats 1600000 in
theorem l_rrC {l : Launch} {G : ks_G} {d : Nat} {S : ks_S} {V : Nat → Value} {F : Nat} {xs ys : List (List Nat)} {vs : Vs} {Gp : Pt} {P y N L t b k p m u e inp : Nat} {G9 : Nat → Nat} (hT9 : mqT P y N G9 k u e inp) {S0 : ks_S} {V0 : Nat → Value} {F0 : Nat} {P9 : Option Value → ks_S → Prop} {cy Nc till pb pos f : Nat} {gc : Nat → Nat} {cs : List Bool} (hck : cdK vs cy Nc till gc) (hb9 : pb ≤ till ∧ till - pb ≤ 1600) (hp16 : till - pos ≤ 1600) {op nx pn o2 : Nat} (hcd : cdQ S cy Nc till gc) (hI : rrK S0 S V0 V F0 F) (hM : mqS S V F xs ys vs Gp P y N G9 L t b k p m u e inp) (hC : rcX S V cs) (hv : V 79 = .ref cy ∧ V 80 = .int (nI pb) ∧ V 81 = .int (nI till) ∧ V 82 = .int (nI o2) ∧ V 74 = .int (ks_bo false)) (v63 : V 63 = .int (nI pn)) (ho2 : o2 ≤ 201) (hcs : cs.length ≤ o2 ∧ (96 < op → cs.length + 1 ≤ o2)) (hl : xs.length + ys.length ≤ 1000) (hop : op < 256) (hnb : badO op = false) (hpn : pn ≤ nx ∧ nx ≤ till) (h520 : pn ≤ 520) (hpos : pos < nx) (hnx : ∀ (S2 : ks_S) (V2 : Nat → Value) (F2 pos2 pb2 ops2 : Nat) (xs2 ys2 : List (List Nat)) (cs2 : List Bool), pos < pos2 → pos2 ≤ till → pb2 ≤ till → till - pb2 ≤ 1600 → rrI S0 S2 V0 V2 F0 F2 vs Gp P y N G9 L t b k p m u e inp cy till (pb2) (ops2) xs2 ys2 cs2 → (if 99 ≤ op ∧ op ≤ 104 then (match brS op xs cs with | none => none | some q => if 1000 < q.1.length + ys.length then none else rnS (gdF Gp G9 L b k p m u e inp) (lkB G9 L p e inp) f (bytL gc nx (till - nx)) (bytL gc (pb) (till - (pb))) (o2) q.1 ys q.2) else if clN cs = 0 then (match (if op ≤ 78 then some (bytL gc (nx - pn) pn :: xs, ys) else opE (gdF Gp G9 L b k p m u e inp) (lkB G9 L p e inp) op xs ys o2 (bytL gc pb (till - pb))) with | none => none | some q => if 1000 < q.1.length + q.2.length then none else rnS (gdF Gp G9 L b k p m u e inp) (lkB G9 L p e inp) f (bytL gc nx (till - nx)) (bytL gc (opB op nx pb) (till - (opB op nx pb))) (opO op xs o2) q.1 q.2 cs) else rnS (gdF Gp G9 L b k p m u e inp) (lkB G9 L p e inp) f (bytL gc nx (till - nx)) (bytL gc (pb) (till - (pb))) (o2) xs ys cs) = rnS (gdF Gp G9 L b k p m u e inp) (lkB G9 L p e inp) f (bytL gc pos2 (till - pos2)) (bytL gc pb2 (till - pb2)) ops2 xs2 ys2 cs2 → ks_X l G mX16_run (d + 11) 40 [(0, .ref 290), (1, .ref cy), (4, .int (nI pos2))] [] S2 P9) (hno : ∀ (S2 : ks_S) (V2 : Nat → Value) (F2 : Nat) (xs2 ys2 : List (List Nat)), rrK S0 S2 V0 V2 F0 F2 → mqS S2 V2 F2 xs2 ys2 vs Gp P y N G9 L t b k p m u e inp → (if 99 ≤ op ∧ op ≤ 104 then (match brS op xs cs with | none => none | some q => if 1000 < q.1.length + ys.length then none else rnS (gdF Gp G9 L b k p m u e inp) (lkB G9 L p e inp) f (bytL gc nx (till - nx)) (bytL gc (pb) (till - (pb))) (o2) q.1 ys q.2) else if clN cs = 0 then (match (if op ≤ 78 then some (bytL gc (nx - pn) pn :: xs, ys) else opE (gdF Gp G9 L b k p m u e inp) (lkB G9 L p e inp) op xs ys o2 (bytL gc pb (till - pb))) with | none => none | some q => if 1000 < q.1.length + q.2.length then none else rnS (gdF Gp G9 L b k p m u e inp) (lkB G9 L p e inp) f (bytL gc nx (till - nx)) (bytL gc (opB op nx pb) (till - (opB op nx pb))) (opO op xs o2) q.1 q.2 cs) else rnS (gdF Gp G9 L b k p m u e inp) (lkB G9 L p e inp) f (bytL gc nx (till - nx)) (bytL gc (pb) (till - (pb))) (o2) xs ys cs) = none → P9 (some (.int (ks_bo false))) S2) : ks_X l G mX16_run (d + 11) 126 [(0, .ref 290), (1, .ref cy), (4, .int (nI pos)), (5, .int (nI op)), (6, .int (nI nx))] [] S P9 := by
  obtain ⟨hO, hK, hG, hh, h369, hlow, h368⟩ := id hM
  obtain ⟨v79, v80, v81, v82, v74⟩ := hv
  refine ks_iconst (x := nI 1) dX16_run_126 (by decide) rfl ?_
  refine ks_istore dX16_run_127 (by decide) rfl ?_
  refine ks_sub [(7, _), (0, _), (1, _), (4, _), (5, _), (6, _)] rfl ?_
  refine ks_iconst (x := nI 0) dX16_run_129 (by decide) rfl ?_
  refine ks_istore dX16_run_130 (by decide) rfl ?_
  refine ks_sub [(8, _), (0, _), (1, _), (4, _), (5, _), (6, _), (7, _)] rfl ?_
  refine ks_sub [(0, _), (1, _), (4, _), (5, _), (6, _), (7, .int (ks_bo true)), (8, _)] rfl ?_
  refine l_rrCond hO hC ?_
  refine ks_iload dX16_run_159 rfl rfl ?_
  refine ks_bipush (x := nI 99) dX16_run_161 (by decide) rfl ?_
  refine ks_icmp_ltN (tgt := 198) (by omega) (by decide) dX16_run_163 (by decide) rfl (fun hc163 => ?_) (fun hc163 => ?_)
  · refine ks_iload dX16_run_198 rfl rfl ?_
    refine ks_if_eqZ (tgt := 212) dX16_run_200 (by decide) rfl (fun hc200 => ?_) (fun hc200 => ?_)
    · have hcl : ¬ clN cs = 0 := of_decide_eq_false hc200
      have h99 : ¬ (99 ≤ op ∧ op ≤ 104) := fun h => by
        have := of_decide_eq_false hnb
        omega
      rw [if_neg h99, if_neg hcl] at hnx hno
      have w74 := v74
      obtain ⟨u67, u70, -, ub1, ub2, -⟩ := hM.2.1.v67
      refine ks_sub [(0, _), (1, _), (6, _)] rfl ?_
      refine ks_aload_n dX16_run_212 rfl rfl ?_
      refine ks_getf (T := TX16) (kf := 74) kx_2442 rfl in_X16 cl_X16 (by decide) hM.1 rfl dX16_run_213 rfl ?_
      refine ks_tv w74 ?_
      refine ks_if_neZ (tgt := 234) dX16_run_216 (by decide) rfl (fun h7 => ?_) (fun h7 => ?_)
      · exact absurd h7 (by decide)
      · refine ks_aload_n dX16_run_219 rfl rfl ?_
        refine ks_getf (T := TX16) (kf := 67) kx_2435 rfl in_X16 cl_X16 (by decide) hM.1 rfl dX16_run_220 rfl ?_
        refine ks_tv u67 ?_
        refine ks_aload_n dX16_run_223 rfl rfl ?_
        refine ks_getf (T := TX16) (kf := 70) kx_2438 rfl in_X16 cl_X16 (by decide) hM.1 rfl dX16_run_224 rfl ?_
        refine ks_tv u70 ?_
        refine ks_addN dX16_run_227 rfl ?_
        refine ks_sipush (x := nI 1000) dX16_run_228 (by decide) rfl ?_
        refine ks_icmp_leN (tgt := 236) (by omega) (by decide) dX16_run_231 (by decide) rfl (fun h8 => ?_) (fun h8 => ?_)
        · refine ks_iload dX16_run_236 rfl rfl ?_
          refine ks_istore dX16_run_238 (by decide) rfl ?_
          refine ks_sub [(4, _), (0, _), (1, _), (6, _)] rfl ?_
          refine ks_goto (tgt := 40) dX16_run_240 (by decide) ?_
          refine ks_sub [(0, _), (1, _), (4, _)] rfl ?_
          exact hnx S V F nx pb o2 xs ys cs hpos hpn.2 hb9.1 hb9.2 ⟨hI, hM, hC, ⟨v79, v80, v81, v82, v74⟩, ho2, hcs.1, hl⟩ rfl
        · refine ks_iconst (x := nI 0) dX16_run_234 (by decide) rfl ?_
          refine ks_zret rfl rfl dX16_run_235 ?_
          omega
    · refine ks_aload_n dX16_run_203 rfl rfl ?_
      refine ks_iload dX16_run_204 rfl rfl ?_
      refine ks_aload_n dX16_run_206 rfl rfl ?_
      refine ks_iload dX16_run_207 rfl rfl ?_
      have hcl : clN cs = 0 := of_decide_eq_true hc200
      have h99 : ¬ (99 ≤ op ∧ op ≤ 104) := fun h => by
        have := of_decide_eq_false hnb
        omega
      rw [if_neg h99, if_pos hcl] at hnx hno
      refine ks_callV (n := 3) (M' := mX16_act) (c_rs_act (d := d) hM hT9 v79 v80 v81 hcd hck hb9 (nx := nx) hop hnb hl v74 v82 ho2 v63 hpn h520 h99) hO cl_X16 rfl kx_2173 kx_2175 kxp_89 kx_30 kx_2176 (by decide +kernel) rfl (by decide) (Nat.le_of_ble_eq_true rfl) rfl dX16_run_209 rfl (fun z1 S1 y1 => ?_)
      obtain ⟨rfl, V1, F1, xs1, ys1, j1, M1, hc⟩ := y1
      have R1 := hI.trans j1.r
      have C1 := hC.sf j1.1 (by decide) (j1.2 84 (by decide))
      obtain ⟨ra, era⟩ : ∃ r, r = (if op ≤ 78 then some (bytL gc (nx - pn) pn :: xs, ys) else opE (gdF Gp G9 L b k p m u e inp) (lkB G9 L p e inp) op xs ys o2 (bytL gc pb (till - pb))) := ⟨_, rfl⟩
      rw [← era] at hnx hno hc
      rcases hc with ⟨w74, er, w80, w82⟩ | ⟨w74, er⟩
      · rw [er] at hnx hno
        have ob : opB op nx pb ≤ till ∧ till - opB op nx pb ≤ 1600 := by
          unfold opB
          split
          · omega
          · exact hb9
        have oo : o2 ≤ opO op xs o2 ∧ opO op xs o2 ≤ 201 := by
          unfold opO
          split
          · next h17 =>
            have er2 : akS (gdF Gp G9 L b k p m u e inp) op xs ys o2 (bytL gc pb (till - pb)) = some (xs1, ys1) := by
              rw [← er, era, if_neg (by omega)]
              exact (if_pos h17).symm
            have q := akO_b er2 ho2
            exact ⟨q.2, q.1⟩
          · exact ⟨Nat.le_refl _, ho2⟩
        obtain ⟨u67, u70, -, ub1, ub2, -⟩ := M1.2.1.v67
        refine ks_sub [(0, _), (1, _), (6, _)] rfl ?_
        refine ks_aload_n dX16_run_212 rfl rfl ?_
        refine ks_getf (T := TX16) (kf := 74) kx_2442 rfl in_X16 cl_X16 (by decide) M1.1 rfl dX16_run_213 rfl ?_
        refine ks_tv w74 ?_
        refine ks_if_neZ (tgt := 234) dX16_run_216 (by decide) rfl (fun h7 => ?_) (fun h7 => ?_)
        · exact absurd h7 (by decide)
        · refine ks_aload_n dX16_run_219 rfl rfl ?_
          refine ks_getf (T := TX16) (kf := 67) kx_2435 rfl in_X16 cl_X16 (by decide) M1.1 rfl dX16_run_220 rfl ?_
          refine ks_tv u67 ?_
          refine ks_aload_n dX16_run_223 rfl rfl ?_
          refine ks_getf (T := TX16) (kf := 70) kx_2438 rfl in_X16 cl_X16 (by decide) M1.1 rfl dX16_run_224 rfl ?_
          refine ks_tv u70 ?_
          refine ks_addN dX16_run_227 rfl ?_
          refine ks_sipush (x := nI 1000) dX16_run_228 (by decide) rfl ?_
          refine ks_icmp_leN (tgt := 236) (by omega) (by decide) dX16_run_231 (by decide) rfl (fun h8 => ?_) (fun h8 => ?_)
          · refine ks_iload dX16_run_236 rfl rfl ?_
            refine ks_istore dX16_run_238 (by decide) rfl ?_
            refine ks_sub [(4, _), (0, _), (1, _), (6, _)] rfl ?_
            refine ks_goto (tgt := 40) dX16_run_240 (by decide) ?_
            refine ks_sub [(0, _), (1, _), (4, _)] rfl ?_
            exact hnx S1 V1 F1 nx (opB op nx pb) (opO op xs o2) xs1 ys1 cs hpos hpn.2 ob.1 ob.2 ⟨R1, M1, C1, ⟨(j1.2 _ (by decide)).trans v79, w80, (j1.2 _ (by decide)).trans v81, w82, w74⟩, oo.2, by omega, by omega⟩ (if_neg (show ¬ 1000 < xs1.length + ys1.length by omega))
          · refine ks_iconst (x := nI 0) dX16_run_234 (by decide) rfl ?_
            refine ks_zret rfl rfl dX16_run_235 ?_
            exact hno S1 V1 F1 xs1 ys1 R1 M1 (if_pos (show 1000 < xs1.length + ys1.length by omega))
      · obtain ⟨u67, u70, -, ub1, ub2, -⟩ := M1.2.1.v67
        refine ks_sub [(0, _), (1, _), (6, _)] rfl ?_
        refine ks_aload_n dX16_run_212 rfl rfl ?_
        refine ks_getf (T := TX16) (kf := 74) kx_2442 rfl in_X16 cl_X16 (by decide) M1.1 rfl dX16_run_213 rfl ?_
        refine ks_tv w74 ?_
        refine ks_if_neZ (tgt := 234) dX16_run_216 (by decide) rfl (fun h7 => ?_) (fun h7 => ?_)
        · refine ks_iconst (x := nI 0) dX16_run_234 (by decide) rfl ?_
          refine ks_zret rfl rfl dX16_run_235 ?_
          refine hno S1 V1 F1 xs1 ys1 R1 M1 ?_
          cases ra with
          | none => rfl
          | some q => exact if_pos (er q rfl)
        · exact absurd h7 (by decide)
  · refine ks_iload dX16_run_166 rfl rfl ?_
    refine ks_bipush (x := nI 104) dX16_run_168 (by decide) rfl ?_
    refine ks_icmp_gtN (tgt := 198) (by omega) (by decide) dX16_run_170 (by decide) rfl (fun hc170 => ?_) (fun hc170 => ?_)
    · refine ks_iload dX16_run_198 rfl rfl ?_
      refine ks_if_eqZ (tgt := 212) dX16_run_200 (by decide) rfl (fun hc200 => ?_) (fun hc200 => ?_)
      · have hcl : ¬ clN cs = 0 := of_decide_eq_false hc200
        have h99 : ¬ (99 ≤ op ∧ op ≤ 104) := fun h => by
          have := of_decide_eq_false hnb
          omega
        rw [if_neg h99, if_neg hcl] at hnx hno
        have w74 := v74
        obtain ⟨u67, u70, -, ub1, ub2, -⟩ := hM.2.1.v67
        refine ks_sub [(0, _), (1, _), (6, _)] rfl ?_
        refine ks_aload_n dX16_run_212 rfl rfl ?_
        refine ks_getf (T := TX16) (kf := 74) kx_2442 rfl in_X16 cl_X16 (by decide) hM.1 rfl dX16_run_213 rfl ?_
        refine ks_tv w74 ?_
        refine ks_if_neZ (tgt := 234) dX16_run_216 (by decide) rfl (fun h7 => ?_) (fun h7 => ?_)
        · exact absurd h7 (by decide)
        · refine ks_aload_n dX16_run_219 rfl rfl ?_
          refine ks_getf (T := TX16) (kf := 67) kx_2435 rfl in_X16 cl_X16 (by decide) hM.1 rfl dX16_run_220 rfl ?_
          refine ks_tv u67 ?_
          refine ks_aload_n dX16_run_223 rfl rfl ?_
          refine ks_getf (T := TX16) (kf := 70) kx_2438 rfl in_X16 cl_X16 (by decide) hM.1 rfl dX16_run_224 rfl ?_
          refine ks_tv u70 ?_
          refine ks_addN dX16_run_227 rfl ?_
          refine ks_sipush (x := nI 1000) dX16_run_228 (by decide) rfl ?_
          refine ks_icmp_leN (tgt := 236) (by omega) (by decide) dX16_run_231 (by decide) rfl (fun h8 => ?_) (fun h8 => ?_)
          · refine ks_iload dX16_run_236 rfl rfl ?_
            refine ks_istore dX16_run_238 (by decide) rfl ?_
            refine ks_sub [(4, _), (0, _), (1, _), (6, _)] rfl ?_
            refine ks_goto (tgt := 40) dX16_run_240 (by decide) ?_
            refine ks_sub [(0, _), (1, _), (4, _)] rfl ?_
            exact hnx S V F nx pb o2 xs ys cs hpos hpn.2 hb9.1 hb9.2 ⟨hI, hM, hC, ⟨v79, v80, v81, v82, v74⟩, ho2, hcs.1, hl⟩ rfl
          · refine ks_iconst (x := nI 0) dX16_run_234 (by decide) rfl ?_
            refine ks_zret rfl rfl dX16_run_235 ?_
            omega
      · refine ks_aload_n dX16_run_203 rfl rfl ?_
        refine ks_iload dX16_run_204 rfl rfl ?_
        refine ks_aload_n dX16_run_206 rfl rfl ?_
        refine ks_iload dX16_run_207 rfl rfl ?_
        have hcl : clN cs = 0 := of_decide_eq_true hc200
        have h99 : ¬ (99 ≤ op ∧ op ≤ 104) := fun h => by
          have := of_decide_eq_false hnb
          omega
        rw [if_neg h99, if_pos hcl] at hnx hno
        refine ks_callV (n := 3) (M' := mX16_act) (c_rs_act (d := d) hM hT9 v79 v80 v81 hcd hck hb9 (nx := nx) hop hnb hl v74 v82 ho2 v63 hpn h520 h99) hO cl_X16 rfl kx_2173 kx_2175 kxp_89 kx_30 kx_2176 (by decide +kernel) rfl (by decide) (Nat.le_of_ble_eq_true rfl) rfl dX16_run_209 rfl (fun z1 S1 y1 => ?_)
        obtain ⟨rfl, V1, F1, xs1, ys1, j1, M1, hc⟩ := y1
        have R1 := hI.trans j1.r
        have C1 := hC.sf j1.1 (by decide) (j1.2 84 (by decide))
        obtain ⟨ra, era⟩ : ∃ r, r = (if op ≤ 78 then some (bytL gc (nx - pn) pn :: xs, ys) else opE (gdF Gp G9 L b k p m u e inp) (lkB G9 L p e inp) op xs ys o2 (bytL gc pb (till - pb))) := ⟨_, rfl⟩
        rw [← era] at hnx hno hc
        rcases hc with ⟨w74, er, w80, w82⟩ | ⟨w74, er⟩
        · rw [er] at hnx hno
          have ob : opB op nx pb ≤ till ∧ till - opB op nx pb ≤ 1600 := by
            unfold opB
            split
            · omega
            · exact hb9
          have oo : o2 ≤ opO op xs o2 ∧ opO op xs o2 ≤ 201 := by
            unfold opO
            split
            · next h17 =>
              have er2 : akS (gdF Gp G9 L b k p m u e inp) op xs ys o2 (bytL gc pb (till - pb)) = some (xs1, ys1) := by
                rw [← er, era, if_neg (by omega)]
                exact (if_pos h17).symm
              have q := akO_b er2 ho2
              exact ⟨q.2, q.1⟩
            · exact ⟨Nat.le_refl _, ho2⟩
          obtain ⟨u67, u70, -, ub1, ub2, -⟩ := M1.2.1.v67
          refine ks_sub [(0, _), (1, _), (6, _)] rfl ?_
          refine ks_aload_n dX16_run_212 rfl rfl ?_
          refine ks_getf (T := TX16) (kf := 74) kx_2442 rfl in_X16 cl_X16 (by decide) M1.1 rfl dX16_run_213 rfl ?_
          refine ks_tv w74 ?_
          refine ks_if_neZ (tgt := 234) dX16_run_216 (by decide) rfl (fun h7 => ?_) (fun h7 => ?_)
          · exact absurd h7 (by decide)
          · refine ks_aload_n dX16_run_219 rfl rfl ?_
            refine ks_getf (T := TX16) (kf := 67) kx_2435 rfl in_X16 cl_X16 (by decide) M1.1 rfl dX16_run_220 rfl ?_
            refine ks_tv u67 ?_
            refine ks_aload_n dX16_run_223 rfl rfl ?_
            refine ks_getf (T := TX16) (kf := 70) kx_2438 rfl in_X16 cl_X16 (by decide) M1.1 rfl dX16_run_224 rfl ?_
            refine ks_tv u70 ?_
            refine ks_addN dX16_run_227 rfl ?_
            refine ks_sipush (x := nI 1000) dX16_run_228 (by decide) rfl ?_
            refine ks_icmp_leN (tgt := 236) (by omega) (by decide) dX16_run_231 (by decide) rfl (fun h8 => ?_) (fun h8 => ?_)
            · refine ks_iload dX16_run_236 rfl rfl ?_
              refine ks_istore dX16_run_238 (by decide) rfl ?_
              refine ks_sub [(4, _), (0, _), (1, _), (6, _)] rfl ?_
              refine ks_goto (tgt := 40) dX16_run_240 (by decide) ?_
              refine ks_sub [(0, _), (1, _), (4, _)] rfl ?_
              exact hnx S1 V1 F1 nx (opB op nx pb) (opO op xs o2) xs1 ys1 cs hpos hpn.2 ob.1 ob.2 ⟨R1, M1, C1, ⟨(j1.2 _ (by decide)).trans v79, w80, (j1.2 _ (by decide)).trans v81, w82, w74⟩, oo.2, by omega, by omega⟩ (if_neg (show ¬ 1000 < xs1.length + ys1.length by omega))
            · refine ks_iconst (x := nI 0) dX16_run_234 (by decide) rfl ?_
              refine ks_zret rfl rfl dX16_run_235 ?_
              exact hno S1 V1 F1 xs1 ys1 R1 M1 (if_pos (show 1000 < xs1.length + ys1.length by omega))
        · obtain ⟨u67, u70, -, ub1, ub2, -⟩ := M1.2.1.v67
          refine ks_sub [(0, _), (1, _), (6, _)] rfl ?_
          refine ks_aload_n dX16_run_212 rfl rfl ?_
          refine ks_getf (T := TX16) (kf := 74) kx_2442 rfl in_X16 cl_X16 (by decide) M1.1 rfl dX16_run_213 rfl ?_
          refine ks_tv w74 ?_
          refine ks_if_neZ (tgt := 234) dX16_run_216 (by decide) rfl (fun h7 => ?_) (fun h7 => ?_)
          · refine ks_iconst (x := nI 0) dX16_run_234 (by decide) rfl ?_
            refine ks_zret rfl rfl dX16_run_235 ?_
            refine hno S1 V1 F1 xs1 ys1 R1 M1 ?_
            cases ra with
            | none => rfl
            | some q => exact if_pos (er q rfl)
          · exact absurd h7 (by decide)
    · refine ks_iload dX16_run_173 rfl rfl ?_
      refine ks_bipush (x := nI 101) dX16_run_175 (by decide) rfl ?_
      refine ks_icmp_eqN (tgt := 198) (by omega) (by decide) dX16_run_177 (by decide) rfl (fun hc177 => ?_) (fun hc177 => ?_)
      · refine ks_iload dX16_run_198 rfl rfl ?_
        refine ks_if_eqZ (tgt := 212) dX16_run_200 (by decide) rfl (fun hc200 => ?_) (fun hc200 => ?_)
        · have hcl : ¬ clN cs = 0 := of_decide_eq_false hc200
          have h99 : ¬ (99 ≤ op ∧ op ≤ 104) := fun h => by
            have := of_decide_eq_false hnb
            omega
          rw [if_neg h99, if_neg hcl] at hnx hno
          have w74 := v74
          obtain ⟨u67, u70, -, ub1, ub2, -⟩ := hM.2.1.v67
          refine ks_sub [(0, _), (1, _), (6, _)] rfl ?_
          refine ks_aload_n dX16_run_212 rfl rfl ?_
          refine ks_getf (T := TX16) (kf := 74) kx_2442 rfl in_X16 cl_X16 (by decide) hM.1 rfl dX16_run_213 rfl ?_
          refine ks_tv w74 ?_
          refine ks_if_neZ (tgt := 234) dX16_run_216 (by decide) rfl (fun h7 => ?_) (fun h7 => ?_)
          · exact absurd h7 (by decide)
          · refine ks_aload_n dX16_run_219 rfl rfl ?_
            refine ks_getf (T := TX16) (kf := 67) kx_2435 rfl in_X16 cl_X16 (by decide) hM.1 rfl dX16_run_220 rfl ?_
            refine ks_tv u67 ?_
            refine ks_aload_n dX16_run_223 rfl rfl ?_
            refine ks_getf (T := TX16) (kf := 70) kx_2438 rfl in_X16 cl_X16 (by decide) hM.1 rfl dX16_run_224 rfl ?_
            refine ks_tv u70 ?_
            refine ks_addN dX16_run_227 rfl ?_
            refine ks_sipush (x := nI 1000) dX16_run_228 (by decide) rfl ?_
            refine ks_icmp_leN (tgt := 236) (by omega) (by decide) dX16_run_231 (by decide) rfl (fun h8 => ?_) (fun h8 => ?_)
            · refine ks_iload dX16_run_236 rfl rfl ?_
              refine ks_istore dX16_run_238 (by decide) rfl ?_
              refine ks_sub [(4, _), (0, _), (1, _), (6, _)] rfl ?_
              refine ks_goto (tgt := 40) dX16_run_240 (by decide) ?_
              refine ks_sub [(0, _), (1, _), (4, _)] rfl ?_
              exact hnx S V F nx pb o2 xs ys cs hpos hpn.2 hb9.1 hb9.2 ⟨hI, hM, hC, ⟨v79, v80, v81, v82, v74⟩, ho2, hcs.1, hl⟩ rfl
            · refine ks_iconst (x := nI 0) dX16_run_234 (by decide) rfl ?_
              refine ks_zret rfl rfl dX16_run_235 ?_
              omega
        · refine ks_aload_n dX16_run_203 rfl rfl ?_
          refine ks_iload dX16_run_204 rfl rfl ?_
          refine ks_aload_n dX16_run_206 rfl rfl ?_
          refine ks_iload dX16_run_207 rfl rfl ?_
          have hcl : clN cs = 0 := of_decide_eq_true hc200
          have h99 : ¬ (99 ≤ op ∧ op ≤ 104) := fun h => by
            have := of_decide_eq_false hnb
            omega
          rw [if_neg h99, if_pos hcl] at hnx hno
          refine ks_callV (n := 3) (M' := mX16_act) (c_rs_act (d := d) hM hT9 v79 v80 v81 hcd hck hb9 (nx := nx) hop hnb hl v74 v82 ho2 v63 hpn h520 h99) hO cl_X16 rfl kx_2173 kx_2175 kxp_89 kx_30 kx_2176 (by decide +kernel) rfl (by decide) (Nat.le_of_ble_eq_true rfl) rfl dX16_run_209 rfl (fun z1 S1 y1 => ?_)
          obtain ⟨rfl, V1, F1, xs1, ys1, j1, M1, hc⟩ := y1
          have R1 := hI.trans j1.r
          have C1 := hC.sf j1.1 (by decide) (j1.2 84 (by decide))
          obtain ⟨ra, era⟩ : ∃ r, r = (if op ≤ 78 then some (bytL gc (nx - pn) pn :: xs, ys) else opE (gdF Gp G9 L b k p m u e inp) (lkB G9 L p e inp) op xs ys o2 (bytL gc pb (till - pb))) := ⟨_, rfl⟩
          rw [← era] at hnx hno hc
          rcases hc with ⟨w74, er, w80, w82⟩ | ⟨w74, er⟩
          · rw [er] at hnx hno
            have ob : opB op nx pb ≤ till ∧ till - opB op nx pb ≤ 1600 := by
              unfold opB
              split
              · omega
              · exact hb9
            have oo : o2 ≤ opO op xs o2 ∧ opO op xs o2 ≤ 201 := by
              unfold opO
              split
              · next h17 =>
                have er2 : akS (gdF Gp G9 L b k p m u e inp) op xs ys o2 (bytL gc pb (till - pb)) = some (xs1, ys1) := by
                  rw [← er, era, if_neg (by omega)]
                  exact (if_pos h17).symm
                have q := akO_b er2 ho2
                exact ⟨q.2, q.1⟩
              · exact ⟨Nat.le_refl _, ho2⟩
            obtain ⟨u67, u70, -, ub1, ub2, -⟩ := M1.2.1.v67
            refine ks_sub [(0, _), (1, _), (6, _)] rfl ?_
            refine ks_aload_n dX16_run_212 rfl rfl ?_
            refine ks_getf (T := TX16) (kf := 74) kx_2442 rfl in_X16 cl_X16 (by decide) M1.1 rfl dX16_run_213 rfl ?_
            refine ks_tv w74 ?_
            refine ks_if_neZ (tgt := 234) dX16_run_216 (by decide) rfl (fun h7 => ?_) (fun h7 => ?_)
            · exact absurd h7 (by decide)
            · refine ks_aload_n dX16_run_219 rfl rfl ?_
              refine ks_getf (T := TX16) (kf := 67) kx_2435 rfl in_X16 cl_X16 (by decide) M1.1 rfl dX16_run_220 rfl ?_
              refine ks_tv u67 ?_
              refine ks_aload_n dX16_run_223 rfl rfl ?_
              refine ks_getf (T := TX16) (kf := 70) kx_2438 rfl in_X16 cl_X16 (by decide) M1.1 rfl dX16_run_224 rfl ?_
              refine ks_tv u70 ?_
              refine ks_addN dX16_run_227 rfl ?_
              refine ks_sipush (x := nI 1000) dX16_run_228 (by decide) rfl ?_
              refine ks_icmp_leN (tgt := 236) (by omega) (by decide) dX16_run_231 (by decide) rfl (fun h8 => ?_) (fun h8 => ?_)
              · refine ks_iload dX16_run_236 rfl rfl ?_
                refine ks_istore dX16_run_238 (by decide) rfl ?_
                refine ks_sub [(4, _), (0, _), (1, _), (6, _)] rfl ?_
                refine ks_goto (tgt := 40) dX16_run_240 (by decide) ?_
                refine ks_sub [(0, _), (1, _), (4, _)] rfl ?_
                exact hnx S1 V1 F1 nx (opB op nx pb) (opO op xs o2) xs1 ys1 cs hpos hpn.2 ob.1 ob.2 ⟨R1, M1, C1, ⟨(j1.2 _ (by decide)).trans v79, w80, (j1.2 _ (by decide)).trans v81, w82, w74⟩, oo.2, by omega, by omega⟩ (if_neg (show ¬ 1000 < xs1.length + ys1.length by omega))
              · refine ks_iconst (x := nI 0) dX16_run_234 (by decide) rfl ?_
                refine ks_zret rfl rfl dX16_run_235 ?_
                exact hno S1 V1 F1 xs1 ys1 R1 M1 (if_pos (show 1000 < xs1.length + ys1.length by omega))
          · obtain ⟨u67, u70, -, ub1, ub2, -⟩ := M1.2.1.v67
            refine ks_sub [(0, _), (1, _), (6, _)] rfl ?_
            refine ks_aload_n dX16_run_212 rfl rfl ?_
            refine ks_getf (T := TX16) (kf := 74) kx_2442 rfl in_X16 cl_X16 (by decide) M1.1 rfl dX16_run_213 rfl ?_
            refine ks_tv w74 ?_
            refine ks_if_neZ (tgt := 234) dX16_run_216 (by decide) rfl (fun h7 => ?_) (fun h7 => ?_)
            · refine ks_iconst (x := nI 0) dX16_run_234 (by decide) rfl ?_
              refine ks_zret rfl rfl dX16_run_235 ?_
              refine hno S1 V1 F1 xs1 ys1 R1 M1 ?_
              cases ra with
              | none => rfl
              | some q => exact if_pos (er q rfl)
            · exact absurd h7 (by decide)
      · refine ks_iload dX16_run_180 rfl rfl ?_
        refine ks_bipush (x := nI 102) dX16_run_182 (by decide) rfl ?_
        refine ks_icmp_eqN (tgt := 198) (by omega) (by decide) dX16_run_184 (by decide) rfl (fun hc184 => ?_) (fun hc184 => ?_)
        · refine ks_iload dX16_run_198 rfl rfl ?_
          refine ks_if_eqZ (tgt := 212) dX16_run_200 (by decide) rfl (fun hc200 => ?_) (fun hc200 => ?_)
          · have hcl : ¬ clN cs = 0 := of_decide_eq_false hc200
            have h99 : ¬ (99 ≤ op ∧ op ≤ 104) := fun h => by
              have := of_decide_eq_false hnb
              omega
            rw [if_neg h99, if_neg hcl] at hnx hno
            have w74 := v74
            obtain ⟨u67, u70, -, ub1, ub2, -⟩ := hM.2.1.v67
            refine ks_sub [(0, _), (1, _), (6, _)] rfl ?_
            refine ks_aload_n dX16_run_212 rfl rfl ?_
            refine ks_getf (T := TX16) (kf := 74) kx_2442 rfl in_X16 cl_X16 (by decide) hM.1 rfl dX16_run_213 rfl ?_
            refine ks_tv w74 ?_
            refine ks_if_neZ (tgt := 234) dX16_run_216 (by decide) rfl (fun h7 => ?_) (fun h7 => ?_)
            · exact absurd h7 (by decide)
            · refine ks_aload_n dX16_run_219 rfl rfl ?_
              refine ks_getf (T := TX16) (kf := 67) kx_2435 rfl in_X16 cl_X16 (by decide) hM.1 rfl dX16_run_220 rfl ?_
              refine ks_tv u67 ?_
              refine ks_aload_n dX16_run_223 rfl rfl ?_
              refine ks_getf (T := TX16) (kf := 70) kx_2438 rfl in_X16 cl_X16 (by decide) hM.1 rfl dX16_run_224 rfl ?_
              refine ks_tv u70 ?_
              refine ks_addN dX16_run_227 rfl ?_
              refine ks_sipush (x := nI 1000) dX16_run_228 (by decide) rfl ?_
              refine ks_icmp_leN (tgt := 236) (by omega) (by decide) dX16_run_231 (by decide) rfl (fun h8 => ?_) (fun h8 => ?_)
              · refine ks_iload dX16_run_236 rfl rfl ?_
                refine ks_istore dX16_run_238 (by decide) rfl ?_
                refine ks_sub [(4, _), (0, _), (1, _), (6, _)] rfl ?_
                refine ks_goto (tgt := 40) dX16_run_240 (by decide) ?_
                refine ks_sub [(0, _), (1, _), (4, _)] rfl ?_
                exact hnx S V F nx pb o2 xs ys cs hpos hpn.2 hb9.1 hb9.2 ⟨hI, hM, hC, ⟨v79, v80, v81, v82, v74⟩, ho2, hcs.1, hl⟩ rfl
              · refine ks_iconst (x := nI 0) dX16_run_234 (by decide) rfl ?_
                refine ks_zret rfl rfl dX16_run_235 ?_
                omega
          · refine ks_aload_n dX16_run_203 rfl rfl ?_
            refine ks_iload dX16_run_204 rfl rfl ?_
            refine ks_aload_n dX16_run_206 rfl rfl ?_
            refine ks_iload dX16_run_207 rfl rfl ?_
            have hcl : clN cs = 0 := of_decide_eq_true hc200
            have h99 : ¬ (99 ≤ op ∧ op ≤ 104) := fun h => by
              have := of_decide_eq_false hnb
              omega
            rw [if_neg h99, if_pos hcl] at hnx hno
            refine ks_callV (n := 3) (M' := mX16_act) (c_rs_act (d := d) hM hT9 v79 v80 v81 hcd hck hb9 (nx := nx) hop hnb hl v74 v82 ho2 v63 hpn h520 h99) hO cl_X16 rfl kx_2173 kx_2175 kxp_89 kx_30 kx_2176 (by decide +kernel) rfl (by decide) (Nat.le_of_ble_eq_true rfl) rfl dX16_run_209 rfl (fun z1 S1 y1 => ?_)
            obtain ⟨rfl, V1, F1, xs1, ys1, j1, M1, hc⟩ := y1
            have R1 := hI.trans j1.r
            have C1 := hC.sf j1.1 (by decide) (j1.2 84 (by decide))
            obtain ⟨ra, era⟩ : ∃ r, r = (if op ≤ 78 then some (bytL gc (nx - pn) pn :: xs, ys) else opE (gdF Gp G9 L b k p m u e inp) (lkB G9 L p e inp) op xs ys o2 (bytL gc pb (till - pb))) := ⟨_, rfl⟩
            rw [← era] at hnx hno hc
            rcases hc with ⟨w74, er, w80, w82⟩ | ⟨w74, er⟩
            · rw [er] at hnx hno
              have ob : opB op nx pb ≤ till ∧ till - opB op nx pb ≤ 1600 := by
                unfold opB
                split
                · omega
                · exact hb9
              have oo : o2 ≤ opO op xs o2 ∧ opO op xs o2 ≤ 201 := by
                unfold opO
                split
                · next h17 =>
                  have er2 : akS (gdF Gp G9 L b k p m u e inp) op xs ys o2 (bytL gc pb (till - pb)) = some (xs1, ys1) := by
                    rw [← er, era, if_neg (by omega)]
                    exact (if_pos h17).symm
                  have q := akO_b er2 ho2
                  exact ⟨q.2, q.1⟩
                · exact ⟨Nat.le_refl _, ho2⟩
              obtain ⟨u67, u70, -, ub1, ub2, -⟩ := M1.2.1.v67
              refine ks_sub [(0, _), (1, _), (6, _)] rfl ?_
              refine ks_aload_n dX16_run_212 rfl rfl ?_
              refine ks_getf (T := TX16) (kf := 74) kx_2442 rfl in_X16 cl_X16 (by decide) M1.1 rfl dX16_run_213 rfl ?_
              refine ks_tv w74 ?_
              refine ks_if_neZ (tgt := 234) dX16_run_216 (by decide) rfl (fun h7 => ?_) (fun h7 => ?_)
              · exact absurd h7 (by decide)
              · refine ks_aload_n dX16_run_219 rfl rfl ?_
                refine ks_getf (T := TX16) (kf := 67) kx_2435 rfl in_X16 cl_X16 (by decide) M1.1 rfl dX16_run_220 rfl ?_
                refine ks_tv u67 ?_
                refine ks_aload_n dX16_run_223 rfl rfl ?_
                refine ks_getf (T := TX16) (kf := 70) kx_2438 rfl in_X16 cl_X16 (by decide) M1.1 rfl dX16_run_224 rfl ?_
                refine ks_tv u70 ?_
                refine ks_addN dX16_run_227 rfl ?_
                refine ks_sipush (x := nI 1000) dX16_run_228 (by decide) rfl ?_
                refine ks_icmp_leN (tgt := 236) (by omega) (by decide) dX16_run_231 (by decide) rfl (fun h8 => ?_) (fun h8 => ?_)
                · refine ks_iload dX16_run_236 rfl rfl ?_
                  refine ks_istore dX16_run_238 (by decide) rfl ?_
                  refine ks_sub [(4, _), (0, _), (1, _), (6, _)] rfl ?_
                  refine ks_goto (tgt := 40) dX16_run_240 (by decide) ?_
                  refine ks_sub [(0, _), (1, _), (4, _)] rfl ?_
                  exact hnx S1 V1 F1 nx (opB op nx pb) (opO op xs o2) xs1 ys1 cs hpos hpn.2 ob.1 ob.2 ⟨R1, M1, C1, ⟨(j1.2 _ (by decide)).trans v79, w80, (j1.2 _ (by decide)).trans v81, w82, w74⟩, oo.2, by omega, by omega⟩ (if_neg (show ¬ 1000 < xs1.length + ys1.length by omega))
                · refine ks_iconst (x := nI 0) dX16_run_234 (by decide) rfl ?_
                  refine ks_zret rfl rfl dX16_run_235 ?_
                  exact hno S1 V1 F1 xs1 ys1 R1 M1 (if_pos (show 1000 < xs1.length + ys1.length by omega))
            · obtain ⟨u67, u70, -, ub1, ub2, -⟩ := M1.2.1.v67
              refine ks_sub [(0, _), (1, _), (6, _)] rfl ?_
              refine ks_aload_n dX16_run_212 rfl rfl ?_
              refine ks_getf (T := TX16) (kf := 74) kx_2442 rfl in_X16 cl_X16 (by decide) M1.1 rfl dX16_run_213 rfl ?_
              refine ks_tv w74 ?_
              refine ks_if_neZ (tgt := 234) dX16_run_216 (by decide) rfl (fun h7 => ?_) (fun h7 => ?_)
              · refine ks_iconst (x := nI 0) dX16_run_234 (by decide) rfl ?_
                refine ks_zret rfl rfl dX16_run_235 ?_
                refine hno S1 V1 F1 xs1 ys1 R1 M1 ?_
                cases ra with
                | none => rfl
                | some q => exact if_pos (er q rfl)
              · exact absurd h7 (by decide)
        · refine ks_aload_n dX16_run_187 rfl rfl ?_
          refine ks_iload dX16_run_188 rfl rfl ?_
          refine ks_iload dX16_run_190 rfl rfl ?_
          have hbr : op = 99 ∨ op = 100 ∨ op = 103 ∨ op = 104 := by omega
          have h99 : 99 ≤ op ∧ op ≤ 104 := by omega
          rw [if_pos h99] at hnx hno
          refine ks_callV (n := 2) (M' := mX16_branch) (c_rs_branch (d := d + 9) hO hK (op := op) (cs := cs) hbr hC (by omega) v74) hO cl_X16 rfl kx_2161 kx_2163 kxp_86 kx_30 kx_2164 (by decide +kernel) rfl (by decide) (Nat.le_of_ble_eq_true rfl) rfl dX16_run_192 rfl (fun z1 S1 y1 => ?_)
          obtain ⟨rfl, V1, F1, xs1, cs1, b1, Q1, C1, hc⟩ := y1
          have M1 := hM.bc hT9 b1.1 b1.2.1 (fun j hj => b1.2.2 j (by omega) (by omega) (by omega) (by omega)) Q1 (by obtain ⟨dn, e, -⟩ := C1; exact ⟨dn, e⟩)
          have R1 := hI.trans b1.r
          have hv1 : ∀ j, j ≠ 67 ∧ j ≠ 70 ∧ j ≠ 74 ∧ j ≠ 84 → V1 j = V j := fun j h => b1.2.2 j h.1 h.2.1 h.2.2.1 h.2.2.2
          refine ks_goto (tgt := 212) dX16_run_195 (by decide) ?_
          rcases hc with ⟨w74, er⟩ | ⟨w74, er⟩
          · rw [er] at hnx hno
            have lc := brS_len er
            have lc9 : cs1.length ≤ cs.length + 1 := lc
            obtain ⟨u67, u70, -, ub1, ub2, -⟩ := M1.2.1.v67
            refine ks_sub [(0, _), (1, _), (6, _)] rfl ?_
            refine ks_aload_n dX16_run_212 rfl rfl ?_
            refine ks_getf (T := TX16) (kf := 74) kx_2442 rfl in_X16 cl_X16 (by decide) M1.1 rfl dX16_run_213 rfl ?_
            refine ks_tv w74 ?_
            refine ks_if_neZ (tgt := 234) dX16_run_216 (by decide) rfl (fun h7 => ?_) (fun h7 => ?_)
            · exact absurd h7 (by decide)
            · refine ks_aload_n dX16_run_219 rfl rfl ?_
              refine ks_getf (T := TX16) (kf := 67) kx_2435 rfl in_X16 cl_X16 (by decide) M1.1 rfl dX16_run_220 rfl ?_
              refine ks_tv u67 ?_
              refine ks_aload_n dX16_run_223 rfl rfl ?_
              refine ks_getf (T := TX16) (kf := 70) kx_2438 rfl in_X16 cl_X16 (by decide) M1.1 rfl dX16_run_224 rfl ?_
              refine ks_tv u70 ?_
              refine ks_addN dX16_run_227 rfl ?_
              refine ks_sipush (x := nI 1000) dX16_run_228 (by decide) rfl ?_
              refine ks_icmp_leN (tgt := 236) (by omega) (by decide) dX16_run_231 (by decide) rfl (fun h8 => ?_) (fun h8 => ?_)
              · refine ks_iload dX16_run_236 rfl rfl ?_
                refine ks_istore dX16_run_238 (by decide) rfl ?_
                refine ks_sub [(4, _), (0, _), (1, _), (6, _)] rfl ?_
                refine ks_goto (tgt := 40) dX16_run_240 (by decide) ?_
                refine ks_sub [(0, _), (1, _), (4, _)] rfl ?_
                exact hnx S1 V1 F1 nx pb o2 xs1 ys cs1 hpos hpn.2 hb9.1 hb9.2 ⟨R1, M1, C1, ⟨(hv1 _ (by decide)).trans v79, (hv1 _ (by decide)).trans v80, (hv1 _ (by decide)).trans v81, (hv1 _ (by decide)).trans v82, w74⟩, ho2, by have := hcs.2 (by omega); omega, by omega⟩ (if_neg (show ¬ 1000 < xs1.length + ys.length by omega))
              · refine ks_iconst (x := nI 0) dX16_run_234 (by decide) rfl ?_
                refine ks_zret rfl rfl dX16_run_235 ?_
                exact hno S1 V1 F1 xs1 ys R1 M1 (if_pos (show 1000 < xs1.length + ys.length by omega))
          · rw [er] at hno
            obtain ⟨u67, u70, -, ub1, ub2, -⟩ := M1.2.1.v67
            refine ks_sub [(0, _), (1, _), (6, _)] rfl ?_
            refine ks_aload_n dX16_run_212 rfl rfl ?_
            refine ks_getf (T := TX16) (kf := 74) kx_2442 rfl in_X16 cl_X16 (by decide) M1.1 rfl dX16_run_213 rfl ?_
            refine ks_tv w74 ?_
            refine ks_if_neZ (tgt := 234) dX16_run_216 (by decide) rfl (fun h7 => ?_) (fun h7 => ?_)
            · refine ks_iconst (x := nI 0) dX16_run_234 (by decide) rfl ?_
              refine ks_zret rfl rfl dX16_run_235 ?_
              exact hno S1 V1 F1 xs1 ys R1 M1 rfl
            · exact absurd h7 (by decide)
