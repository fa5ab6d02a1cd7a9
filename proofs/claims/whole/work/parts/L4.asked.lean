/-! THE REFERENCE: asked -/
theorem ask1 {GD : List Nat → List Nat → Bool} (x s : List Nat) : askS GD [x] [s] = (if s = [] then some false else if sgFL s = true then some (GD x s) else none) := by
  unfold askS
  rw [if_neg (by decide)]
  by_cases h0 : s = []
  · rw [if_pos h0, if_pos h0]; rfl
  · rw [if_neg h0, if_neg h0]
    by_cases h1 : sgFL s = true
    · rw [if_pos h1, if_pos h1]
      cases h2 : GD x s with
      | true => rw [if_pos rfl]; rfl
      | false => rw [if_neg (by decide)]; rfl
    · rw [if_neg h1, if_neg h1]
/-- a signature of bytes, in the reference's words -/
theorem gd_b {Gp : Pt} {G9 : Nat → Nat} {L b k p m u e inp : Nat} {gs gk : Nat → Nat} {n q : Nat} {c : List Nat} (h0 : n ≠ 0) : ecF Gp (bytL gk 0 q) (bytL gs 0 n) (sgH G9 L b k p m u e inp (gs (n - 1)) c) = gdF Gp G9 L b k p m u e inp c (bytL gk 0 q) (bytL gs 0 n) := by
  unfold gdF
  rw [bytL_len, bytL_at _ _ _ (by omega), Nat.zero_add]
theorem two_x {xs : List (List Nat)} (h : 2 ≤ xs.length) : (xs.drop 0).take 1 = [xs.getD 0 []] ∧ (xs.drop 1).take 1 = [xs.getD 1 []] := by
  match xs, h with
  | a :: b :: r, _ => exact ⟨rfl, rfl⟩
theorem sgFL_b (gs : Nat → Nat) (n : Nat) : sgFL (bytL gs 0 n) = sgF gs 0 n := by
  unfold sgFL
  rw [bytL_len, ← sgF_L]
theorem bytL_nil {gs : Nat → Nat} {n : Nat} : bytL gs 0 n = [] ↔ n = 0 := by
  constructor
  · intro h
    have := congrArg List.length h
    rw [bytL_len] at this
    exact this
  · intro h
    subst h
    rfl
set_option maxRecDepth 100000 in
set_option maxHeartbeats 1600000 in
theorem c_rs_asked {l : Launch} {G : ks_G} {d : Nat} {S : ks_S} {V : Nat → Value} {F : Nat} {xs ys : List (List Nat)} {vs : Vs} {Gp : Pt} {P y N L t b k p m u e inp : Nat} {G9 : Nat → Nat} (hM : mqS S V F xs ys vs Gp P y N G9 L t b k p m u e inp) (hT9 : mqT P y N G9 k u e inp) {cy Nc pb pe : Nat} {gc : Nat → Nat} (v79 : V 79 = .ref cy) (v80 : V 80 = .int (nI pb)) (v81 : V 81 = .int (nI pe)) (hcd : cdQ S cy Nc pe gc) (hck : cdK vs cy Nc pe gc) (hb9 : pb ≤ pe ∧ pe - pb ≤ 1600) {op ops : Nat} (hx2 : 2 ≤ xs.length) (hl : xs.length ≤ 1000) (hop : op = 172 ∨ op = 173) (v74 : V 74 = .int (ks_bo false)) : ks_P l G yX16_asked mX16_asked (d + 7) [.ref 290, .int (nI op)] S (fun z S' => z = none ∧ mqR S S' V F (akS (gdF Gp G9 L b k p m u e inp) op xs ys ops (bytL gc pb (pe - pb))) vs Gp P y N G9 L t b k p m u e inp) := by
  obtain ⟨hO, hK, hG, hh, h369, hlow, h368⟩ := id hM
  obtain ⟨T, sz, oz, vz, hK', rfl, gS, kS, h367⟩ := hK
  have hK := hK'
  obtain ⟨hT, ⟨h362, h364, h366⟩, ⟨v67, v70, v73⟩, ⟨bx, by9, bv⟩, hx, hys, hvs, hU⟩ := id hK
  obtain ⟨r1, g1, a1, a2, a3, a4, a5⟩ := hx (xs.length - 1) (by omega)
  rw [Nat.sub_self] at a5
  obtain ⟨r2, g2, b1, b2, b3, b4, b5⟩ := hx (xs.length - 2) (by omega)
  rw [show xs.length - 1 - (xs.length - 2) = 1 by omega] at b5
  have hr1 := hT.hi hlow.no a1
  have hr2 := hT.hi hlow.no b1
  obtain ⟨n1, en1⟩ : ∃ n, n = sz (xs.length - 1) := ⟨_, rfl⟩
  obtain ⟨n2, en2⟩ : ∃ n, n = sz (xs.length - 2) := ⟨_, rfl⟩
  rw [← en1] at a4 a5
  rw [← en2] at b4 b5
  obtain ⟨gr, kgr, hcr, ecr⟩ := id hcd
  obtain ⟨⟨hcy, hN1, hN2, hN3⟩, -⟩ := id hck
  obtain ⟨hg9, hi9, -, -, -⟩ := id hT9
  have ec : bytL gr pb (pe - pb) = bytL gc pb (pe - pb) := bytL_c (fun j hj => ecr _ (by omega))
  obtain ⟨c0, hC0⟩ := hG.2.2.2.2.2.1
  obtain ⟨c, ecc⟩ : ∃ c, c = bytL gc pb (pe - pb) := ⟨_, rfl⟩
  have lc : c.length = pe - pb := by rw [ecc, bytL_len]
  rw [← ecc] at ec ⊢
  have ea : akS (gdF Gp G9 L b k p m u e inp) op xs ys ops c = akB op (xs.drop 2) ys (if n2 = 0 then some false else if sgF g2 0 n2 = true then some (gdF Gp G9 L b k p m u e inp (cln_ [bytL g2 0 n2] c) (bytL g1 0 n1) (bytL g2 0 n2)) else none) := by
    unfold akS
    rw [if_pos (by omega), if_neg (by omega), (two_x hx2).1, (two_x hx2).2, ask1, a5, b5, sgFL_b]
    by_cases h0 : n2 = 0
    · rw [if_pos h0, if_pos (bytL_nil.mpr h0)]
    · rw [if_neg h0, if_neg (fun h => h0 (bytL_nil.mp h))]
  rw [ea]
  refine ks_of (by decide) rfl rfl (Nat.le_of_ble_eq_true rfl) ?_
  show ks_X l G mX16_asked (d + 7) 0 [(0, .ref 290), (1, .int (nI op))] [] S _
  refine ks_aload_n dX16_asked_0 rfl rfl ?_
  refine ks_getf (T := TX16) (kf := 65) kx_2433 rfl in_X16 cl_X16 (by decide) hO rfl dX16_asked_1 rfl ?_
  refine ks_aload_n dX16_asked_4 rfl rfl ?_
  refine ks_getf (T := TX16) (kf := 67) kx_2435 rfl in_X16 cl_X16 (by decide) hO rfl dX16_asked_5 rfl ?_
  refine ks_tv v67 ?_
  refine ks_iconst (x := nI 1) dX16_asked_8 (by decide) rfl ?_
  refine ks_subN (by omega) dX16_asked_9 rfl ?_
  refine ks_aaldN (i := xs.length - 1) (b := r1) (by decide) (hT.1 0 (by decide)) rfl (by omega) (by decide) a1 dX16_asked_10 rfl ?_
  refine ks_astore_n dX16_asked_11 (by decide) rfl ?_
  refine ks_sub [(2, _), (0, _), (1, _)] rfl ?_
  refine ks_aload_n dX16_asked_12 rfl rfl ?_
  refine ks_getf (T := TX16) (kf := 65) kx_2433 rfl in_X16 cl_X16 (by decide) hO rfl dX16_asked_13 rfl ?_
  refine ks_aload_n dX16_asked_16 rfl rfl ?_
  refine ks_getf (T := TX16) (kf := 67) kx_2435 rfl in_X16 cl_X16 (by decide) hO rfl dX16_asked_17 rfl ?_
  refine ks_tv v67 ?_
  refine ks_iconst (x := nI 2) dX16_asked_20 (by decide) rfl ?_
  refine ks_subN (by omega) dX16_asked_21 rfl ?_
  refine ks_aaldN (i := xs.length - 2) (b := r2) (by decide) (hT.1 0 (by decide)) rfl (by omega) (by decide) b1 dX16_asked_22 rfl ?_
  refine ks_astore_n dX16_asked_23 (by decide) rfl ?_
  refine ks_sub [(3, _), (0, _), (1, _), (2, _)] rfl ?_
  refine ks_aload_n dX16_asked_24 rfl rfl ?_
  refine ks_getf (T := TX16) (kf := 66) kx_2434 rfl in_X16 cl_X16 (by decide) hO rfl dX16_asked_25 rfl ?_
  refine ks_aload_n dX16_asked_28 rfl rfl ?_
  refine ks_getf (T := TX16) (kf := 67) kx_2435 rfl in_X16 cl_X16 (by decide) hO rfl dX16_asked_29 rfl ?_
  refine ks_tv v67 ?_
  refine ks_iconst (x := nI 1) dX16_asked_32 (by decide) rfl ?_
  refine ks_subN (by omega) dX16_asked_33 rfl ?_
  refine ks_ialdN (i := xs.length - 1) h362 rfl (by omega) (by decide) dX16_asked_34 rfl ?_
  rw [← en1]
  refine ks_istore dX16_asked_35 (by decide) rfl ?_
  refine ks_sub [(4, _), (0, _), (1, _), (2, _), (3, _)] rfl ?_
  refine ks_aload_n dX16_asked_37 rfl rfl ?_
  refine ks_getf (T := TX16) (kf := 66) kx_2434 rfl in_X16 cl_X16 (by decide) hO rfl dX16_asked_38 rfl ?_
  refine ks_aload_n dX16_asked_41 rfl rfl ?_
  refine ks_getf (T := TX16) (kf := 67) kx_2435 rfl in_X16 cl_X16 (by decide) hO rfl dX16_asked_42 rfl ?_
  refine ks_tv v67 ?_
  refine ks_iconst (x := nI 2) dX16_asked_45 (by decide) rfl ?_
  refine ks_subN (by omega) dX16_asked_46 rfl ?_
  refine ks_ialdN (i := xs.length - 2) h362 rfl (by omega) (by decide) dX16_asked_47 rfl ?_
  rw [← en2]
  refine ks_istore dX16_asked_48 (by decide) rfl ?_
  refine ks_sub [(5, _), (0, _), (1, _), (2, _), (3, _), (4, _)] rfl ?_
  refine ks_aload_n dX16_asked_50 rfl rfl ?_
  refine ks_aload_n dX16_asked_51 rfl rfl ?_
  refine ks_getf (T := TX16) (kf := 79) kx_2447 rfl in_X16 cl_X16 (by decide) hO rfl dX16_asked_52 rfl ?_
  refine ks_tv v79 ?_
  refine ks_aload_n dX16_asked_55 rfl rfl ?_
  refine ks_getf (T := TX16) (kf := 80) kx_2448 rfl in_X16 cl_X16 (by decide) hO rfl dX16_asked_56 rfl ?_
  refine ks_tv v80 ?_
  refine ks_aload_n dX16_asked_59 rfl rfl ?_
  refine ks_getf (T := TX16) (kf := 81) kx_2449 rfl in_X16 cl_X16 (by decide) hO rfl dX16_asked_60 rfl ?_
  refine ks_tv v81 ?_
  refine ks_aload_n dX16_asked_63 rfl rfl ?_
  refine ks_getf (T := TX16) (kf := 80) kx_2448 rfl in_X16 cl_X16 (by decide) hO rfl dX16_asked_64 rfl ?_
  refine ks_tv v80 ?_
  refine ks_subN (by omega) dX16_asked_67 rfl ?_
  refine ks_callV (n := 3) (M' := mX16_load) (c_md_load (d := d + 6) hO hC0 hcr kgr (s := pb) (n := pe - pb) (by omega) (Nat.lt_trans hN2 (by decide)) (by omega) hN1) hO cl_X16 rfl kx_2237 kx_2239 kxp_103 kx_30 kx_2240 (by decide +kernel) rfl (by decide) (Nat.le_of_ble_eq_true rfl) rfl dX16_asked_68 rfl (fun z1 S1 y1 => ?_)
  obtain ⟨rfl, V1, ct1, cx1⟩ := y1
  rw [ec] at cx1
  have gs1 := hG.ct hT9 ct1 cx1
  have o1 := ct1.2.1
  have a21 := ct1.1.at a2 (fun hm => by simp only [List.mem_cons, List.not_mem_nil, or_false] at hm; omega)
  have b21 := ct1.1.at b2 (fun hm => by simp only [List.mem_cons, List.not_mem_nil, or_false] at hm; omega)
  refine ks_aload_n dX16_asked_71 rfl rfl ?_
  refine ks_aload_n dX16_asked_72 rfl rfl ?_
  refine ks_iload dX16_asked_73 rfl rfl ?_
  refine ks_callV (n := 2) (M' := mX16_without) (c_md_withoutA (d := d + 4) o1 cx1 b21 b3 b4 (by decide) (by decide)) o1 cl_X16 rfl kx_2241 kx_2243 kxp_104 kx_30 kx_2244 (by decide +kernel) rfl (by decide) (Nat.le_of_ble_eq_true rfl) rfl dX16_asked_75 rfl (fun z2 S2 y2 => ?_)
  obtain ⟨rfl, V2, ct2, cx2⟩ := y2
  have gs2 := gs1.ct hT9 ct2 cx2
  have o2 := ct2.2.1
  have a22 := ct2.1.at a21 (fun hm => by simp only [List.mem_cons, List.not_mem_nil, or_false] at hm; omega)
  have b22 := ct2.1.at b21 (fun hm => by simp only [List.mem_cons, List.not_mem_nil, or_false] at hm; omega)
  have ew : fl_ (fun o _ => decide (o = 171)) (fl_ (fun o x => isSg o x (bytL g2 0 n2)) c) = cln_ [bytL g2 0 n2] c := by rw [← cln_wo]; rfl
  have v742 : V2 74 = .int (ks_bo false) := (ct2.2.2 _ (by decide) (by decide) (by decide) (by decide)).trans ((ct1.2.2 _ (by decide) (by decide) (by decide) (by decide)).trans v74)
  refine ks_aload_n dX16_asked_78 rfl rfl ?_
  refine ks_aload_n dX16_asked_79 rfl rfl ?_
  refine ks_iload dX16_asked_80 rfl rfl ?_
  refine ks_aload_n dX16_asked_82 rfl rfl ?_
  refine ks_iload dX16_asked_83 rfl rfl ?_
  refine ks_callV (n := 4) (M' := mX16_isGood) (c_md_isGood (d := d) o2 gs2 hg9 hT9.ds hi9 cx2 b22 b3 a22 a3 b4 a4 ⟨hr2, hr1⟩ (gs2.fit hT9 (Nat.le_trans (fl_len _ _ _ (Nat.le_refl _)) (by omega)))) o2 cl_X16 rfl kx_2245 kx_2247 kxp_105 kx_30 kx_2248 (by decide +kernel) rfl (by decide) (Nat.le_of_ble_eq_true rfl) rfl dX16_asked_85 rfl (fun z3 S3 y3 => ?_)
  obtain ⟨V3, k3, gs3, -, rfl, e74⟩ := y3
  rw [ew]
  obtain ⟨gb, egb⟩ : ∃ x : Bool, x = (decide (n2 ≠ 0) && (sgF g2 0 n2 && ecF Gp (bytL g1 0 n1) (bytL g2 0 n2) (sgH G9 L b k p m u e inp (g2 (n2 - 1)) (cln_ [bytL g2 0 n2] c)))) := ⟨_, rfl⟩
  rw [← egb]
  have kk := ((gdK.ct ct1).trans (gdK.ct ct2)).trans k3
  have M3 := hM.gd kk gs3
  have o3 := k3.2.1
  have v673 := M3.2.1.v67.1
  obtain ⟨Q4, m4⟩ := rsQ.pop (k := 2) o3 M3.2.1
  have M4 := M3.ms hT9 m4 Q4
  have K4 := (mqK.gd (F := frT T) kk).trans (mqK.ms m4)
  have l4 : (xs.drop 2).length ≤ 1000 := by rw [List.length_drop]; omega
  rw [v742] at e74
  by_cases bad : n2 ≠ 0 ∧ sgF g2 0 n2 = false
  · rw [if_pos bad] at e74
    refine ks_istore dX16_asked_88 (by decide) rfl ?_
    refine ks_sub [(6, _), (0, _), (1, _), (2, _), (3, _), (4, _), (5, _)] rfl ?_
    refine ks_aload_n dX16_asked_90 rfl rfl ?_
    refine ks_dup dX16_asked_91 rfl rfl ?_
    refine ks_getf (T := TX16) (kf := 67) kx_2435 rfl in_X16 cl_X16 (by decide) o3 rfl dX16_asked_92 rfl ?_
    refine ks_tv v673 ?_
    refine ks_iconst (x := nI 2) dX16_asked_95 (by decide) rfl ?_
    refine ks_subN (by omega) dX16_asked_96 rfl ?_
    refine ks_putf (T := TX16) (kf := 67) kx_2435 rfl in_X16 tyX16_ok nmX16 cl_X16 (by decide) o3 (Nat.le_of_ble_eq_true rfl) rfl rfl rfl rfl dX16_asked_97 rfl ?_
    refine md_put mdp_67 ?_
    refine ks_aload_n dX16_asked_100 rfl rfl ?_
    refine ks_getf (T := TX16) (kf := 74) kx_2442 rfl in_X16 cl_X16 (by decide) (ks_set_same _ _ _) rfl dX16_asked_101 rfl ?_
    refine ks_tv ((va_up_ne _ _ (by decide)).trans e74) ?_
    refine ks_if_neZ (tgt := 125) dX16_asked_104 (by decide) rfl (fun h5 => ?_) (fun h5 => ?_)
    · refine ks_ret rfl dX16_asked_125 ?_
      refine ⟨rfl, _, _, _, _, K4, M4, .inr ⟨(va_up_ne _ _ (by decide)).trans e74, fun q hq => ?_⟩⟩
      rw [if_neg bad.1, if_neg (by rw [bad.2]; decide)] at hq
      cases hq
    · exact absurd h5 (by decide)
  · rw [if_neg bad] at e74
    refine ks_istore dX16_asked_88 (by decide) rfl ?_
    refine ks_sub [(6, _), (0, _), (1, _), (2, _), (3, _), (4, _), (5, _)] rfl ?_
    refine ks_aload_n dX16_asked_90 rfl rfl ?_
    refine ks_dup dX16_asked_91 rfl rfl ?_
    refine ks_getf (T := TX16) (kf := 67) kx_2435 rfl in_X16 cl_X16 (by decide) o3 rfl dX16_asked_92 rfl ?_
    refine ks_tv v673 ?_
    refine ks_iconst (x := nI 2) dX16_asked_95 (by decide) rfl ?_
    refine ks_subN (by omega) dX16_asked_96 rfl ?_
    refine ks_putf (T := TX16) (kf := 67) kx_2435 rfl in_X16 tyX16_ok nmX16 cl_X16 (by decide) o3 (Nat.le_of_ble_eq_true rfl) rfl rfl rfl rfl dX16_asked_97 rfl ?_
    refine md_put mdp_67 ?_
    refine ks_aload_n dX16_asked_100 rfl rfl ?_
    refine ks_getf (T := TX16) (kf := 74) kx_2442 rfl in_X16 cl_X16 (by decide) (ks_set_same _ _ _) rfl dX16_asked_101 rfl ?_
    refine ks_tv ((va_up_ne _ _ (by decide)).trans e74) ?_
    refine ks_if_neZ (tgt := 125) dX16_asked_104 (by decide) rfl (fun h5 => ?_) (fun h5 => ?_)
    · exact absurd h5 (by decide)
    · refine ks_aload_n dX16_asked_107 rfl rfl ?_
      refine ks_iload dX16_asked_108 rfl rfl ?_
      refine ks_iload_n dX16_asked_110 rfl rfl ?_
      refine ks_sipush (x := nI 173) dX16_asked_111 (by decide) rfl ?_
      have eo : (if n2 = 0 then some false else if sgF g2 0 n2 = true then some (gdF Gp G9 L b k p m u e inp (cln_ [bytL g2 0 n2] c) (bytL g1 0 n1) (bytL g2 0 n2)) else none) = some gb := by
        by_cases h0 : n2 = 0
        · rw [if_pos h0, egb, decide_eq_false (p := n2 ≠ 0) (fun h => h h0), Bool.false_and]
        · have hs : sgF g2 0 n2 = true := by
            cases hs : sgF g2 0 n2 with
            | true => rfl
            | false => exact absurd ⟨h0, hs⟩ bad
          rw [if_neg h0, if_pos hs, egb, decide_eq_true (p := n2 ≠ 0) h0, Bool.true_and, hs, Bool.true_and, gd_b h0]
      rw [eo]
      have ek : akB op (xs.drop 2) ys (some gb) = (if decide (op = 173) = true then (if gb = true then some (xs.drop 2, ys) else none) else some (flagL gb :: xs.drop 2, ys)) := by
        show akE op gb (xs.drop 2) ys = _
        unfold akE
        by_cases h3 : op = 173
        · rw [if_pos (.inl h3), if_pos (decide_eq_true h3)]
        · rw [if_neg (by omega), if_neg (by rw [decide_eq_false h3]; decide)]
      rw [ek]
      refine ks_icmp_neN (tgt := 121) (by omega) (by decide) dX16_asked_114 (by decide) rfl (fun h6 => ?_) (fun h6 => ?_)
      · refine ks_iconst (x := nI 0) dX16_asked_121 (by decide) rfl ?_
        rw [decide_eq_false (p := op = 173) h6]
        refine ks_callV (n := 2) (M' := mX16_answer) (c_rs_answer (d := d + 2) M4.1 M4.2.1 (b := gb) (v := false) l4 ((va_up_ne _ _ (by decide)).trans e74)) (ks_set_same _ _ _) cl_X16 rfl kx_2204 kx_2206 kxp_96 kx_30 kx_2207 (by decide +kernel) rfl (by decide) (Nat.le_of_ble_eq_true rfl) rfl dX16_asked_122 rfl (fun z5 S5 y5 => ?_)
        obtain ⟨rfl, hr⟩ := y5
        refine ks_ret rfl dX16_asked_125 ?_
        exact ⟨rfl, (hr.mq M4 hT9).after K4⟩
      · refine ks_iconst (x := nI 1) dX16_asked_117 (by decide) rfl ?_
        refine ks_goto (tgt := 122) dX16_asked_118 (by decide) ?_
        rw [decide_eq_true (p := op = 173) h6]
        refine ks_callV (n := 2) (M' := mX16_answer) (c_rs_answer (d := d + 2) M4.1 M4.2.1 (b := gb) (v := true) l4 ((va_up_ne _ _ (by decide)).trans e74)) (ks_set_same _ _ _) cl_X16 rfl kx_2204 kx_2206 kxp_96 kx_30 kx_2207 (by decide +kernel) rfl (by decide) (Nat.le_of_ble_eq_true rfl) rfl dX16_asked_122 rfl (fun z5 S5 y5 => ?_)
        obtain ⟨rfl, hr⟩ := y5
        refine ks_ret rfl dX16_asked_125 ?_
        exact ⟨rfl, (hr.mq M4 hT9).after K4⟩
