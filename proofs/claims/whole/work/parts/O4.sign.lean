/-! THE REFERENCE: sign, to the digest -/
theorem rdA_dOK {ver loc : Nat → Int64} {inp out ids : Nat → Nat} {ix : Nat → Int32} {seq : Nat → Int64} {iln : Nat → Nat} {val : Nat → Int64} {oln : Nat → Nat} {sc so : Nat → Nat → Nat} {i : Nat} {D : dTx} (h : rdA ver loc inp out ids ix seq iln val oln sc so i D) : dOK D := by
  obtain ⟨eD, h6, o6, hi, ho⟩ := h
  rw [eD]
  refine ⟨⟨by rw [List.length_map, List.length_range]; exact h6, fun x hx => ?_⟩, by rw [List.length_map, List.length_range]; exact o6, fun x hx => ?_⟩
  · obtain ⟨j, hj, rfl⟩ := List.mem_map.mp hx
    exact ⟨bytL_len _ _ _, by show (bytL _ 0 _).length ≤ 600; rw [bytL_len]; exact hi j (List.mem_range.mp hj)⟩
  · obtain ⟨j, hj, rfl⟩ := List.mem_map.mp hx
    show (bytL _ 0 _).length ≤ 600
    rw [bytL_len]
    exact ho j (List.mem_range.mp hj)
theorem catL_cons (x : dIn) (l : List dIn) : catL inL (x :: l) = inL x ++ catL inL l := rfl
theorem sg_rc {D : dTx} (h : dOK D) {ys zs : List dIn} {x : dIn} (e : D.2.2.1 = ys ++ x :: zs) : rc (mg (txL D)) (5 + (catL inL ys).length + 36) (txL D).length 600 = some (x.2.2.1.length, 5 + (catL inL ys).length + 36 + (cntL x.2.2.1.length).length) ∧ 5 + (catL inL ys).length + 36 + (cntL x.2.2.1.length).length + x.2.2.1.length + 4 = 5 + (catL inL (ys ++ [x])).length := by
  have hx := h.1.2 x (by rw [e]; simp)
  have hk : (cntL D.2.2.1.length).length = 1 := by
    rw [cntL_len, if_pos]
    have := h.1.1
    omega
  refine ⟨?_, ?_⟩
  · refine rc_cnt (numL D.1 4 ++ cntL D.2.2.1.length ++ catL inL ys ++ x.1 ++ numL x.2.1.toInt64 4) (x.2.2.1 ++ numL x.2.2.2 4 ++ catL inL zs ++ cntL D.2.2.2.length ++ catL outL D.2.2.2 ++ numL D.2.1 4) ?_ ?_ rfl (by omega) hx.2 rfl
    · unfold txL
      have e2 : catL inL D.2.2.1 = catL inL ys ++ (inL x ++ catL inL zs) := by rw [e, catL_app, catL_cons]
      rw [e2]
      unfold inL
      simp only [List.append_assoc]
    · simp only [List.length_append, numL_len, hk, hx.1]
      try omega
  · rw [catL_app]
    show _ = 5 + (catL inL ys ++ (inL x ++ [])).length
    unfold inL
    simp only [List.length_append, List.append_nil, numL_len, hx.1]
    omega
set_option maxRecDepth 100000 in
set_option maxHeartbeats 800000 in
theorem l_sgP {l : Launch} {G : ks_G} {d : Nat} {S : ks_S} {V : Nat → Value} {D : dTx} {g inp : Nat → Nat} {i j kn ty r9 : Nat} (hO : S.2.2 290 = some (rfE V)) (hDk : dOK D) (h529 : S.2.2 529 = some (kB 131072 g)) (kg : kO g) (hg : ∀ z, z < (txL D).length → g z = mg (txL D) z) (h376 : S.2.2 376 = some (kN 12 inp)) (hi : i < 12) (hinp : inp i = D.2.2.1.length) (hle : (txL D).length ≤ 8000) {P9 : Option Value → ks_S → Prop} (hk : ∀ (S1 : ks_S) (V1 : Nat → Value), skK S S1 V V1 → ks_X l G mX16_sign (d + 2) 236 [(0, .ref 290), (1, .int (nI j)), (2, .int (nI kn)), (3, .int (nI ty)), (4, .int (nI r9)), (5, .int (nI i)), (6, .int (nI (5 + (catL inL D.2.2.1).length)))] [] S1 P9) : ∀ (zs ys : List dIn) (S1 : ks_S) (V1 : Nat → Value), D.2.2.1 = ys ++ zs → skK S S1 V V1 → ks_X l G mX16_sign (d + 2) 201 [(0, .ref 290), (1, .int (nI j)), (2, .int (nI kn)), (3, .int (nI ty)), (4, .int (nI r9)), (5, .int (nI i)), (6, .int (nI (5 + (catL inL ys).length))), (7, .int (nI ys.length))] [] S1 P9 := by
  intro zs
  induction zs with
  | nil =>
    intro ys S1 V1 hy K1
    have o1 := K1.2.1
    have i1 := K1.1.at h376 (by decide)
    have h61 := hDk.1.1
    rw [List.append_nil] at hy
    have ly : ys.length = D.2.2.1.length := by rw [hy]
    refine ks_iload dX16_sign_201 rfl rfl ?_
    refine ks_aload_n dX16_sign_203 rfl rfl ?_
    refine ks_getf (T := TX16) (kf := 97) kx_2465 rfl in_X16 cl_X16 (by decide) o1 rfl dX16_sign_204 rfl ?_
    refine ks_iload dX16_sign_207 rfl rfl ?_
    refine ks_ialdN (i := i) i1 rfl (by omega) (by decide) dX16_sign_209 rfl ?_
    refine ks_icmp_geN (tgt := 236) (by omega) (by omega) dX16_sign_210 (by decide) rfl (fun h1 => ?_) (fun h1 => absurd h1 (by omega))
    refine ks_sub [(0, _), (1, _), (2, _), (3, _), (4, _), (5, _), (6, _)] (by rw [hy]; rfl) (hk S1 V1 K1)
  | cons x zs ih =>
    intro ys S1 V1 hy K1
    have o1 := K1.2.1
    have i1 := K1.1.at h376 (by decide)
    have h61 := hDk.1.1
    have ly : ys.length + 1 ≤ D.2.2.1.length := by rw [hy, List.length_append]; show _ ≤ ys.length + (zs.length + 1); omega
    obtain ⟨hrc, hnx⟩ := sg_rc hDk hy
    have hrc2 : rc g (5 + (catL inL ys).length + 36) (txL D).length 600 = some (x.2.2.1.length, 5 + (catL inL ys).length + 36 + (cntL x.2.2.1.length).length) := by rw [rc_congr hg]; exact hrc
    refine ks_iload dX16_sign_201 rfl rfl ?_
    refine ks_aload_n dX16_sign_203 rfl rfl ?_
    refine ks_getf (T := TX16) (kf := 97) kx_2465 rfl in_X16 cl_X16 (by decide) o1 rfl dX16_sign_204 rfl ?_
    refine ks_iload dX16_sign_207 rfl rfl ?_
    refine ks_ialdN (i := i) i1 rfl (by omega) (by decide) dX16_sign_209 rfl ?_
    refine ks_icmp_geN (tgt := 236) (by omega) (by omega) dX16_sign_210 (by decide) rfl (fun h1 => absurd h1 (by omega)) (fun h1 => ?_)
    refine ks_aload_n dX16_sign_213 rfl rfl ?_
    refine ks_aload_n dX16_sign_214 rfl rfl ?_
    refine ks_getf (T := TX16) (kf := 106) kx_2474 rfl in_X16 cl_X16 (by decide) o1 rfl dX16_sign_215 rfl ?_
    refine ks_iload dX16_sign_218 rfl rfl ?_
    refine ks_bipush (x := nI 36) dX16_sign_220 (by decide) rfl ?_
    refine ks_addN dX16_sign_222 rfl ?_
    refine ks_callV (n := 2) (M' := mX16_script) (c_md_scriptv (L := (txL D).length) (most := 600) o1 (K1.1.at h529 (by decide)) kg (by omega) (by decide) hrc2) o1 cl_X16 rfl kx_2126 kx_2128 kxp_79 kx_30 kx_2129 (by decide +kernel) rfl (by decide) (Nat.le_of_ble_eq_true rfl) rfl dX16_sign_223 rfl (fun z2 S2 y2 => ?_)
    obtain ⟨rfl, V2, J2, -, -⟩ := y2
    refine ks_iconst (x := nI 4) dX16_sign_226 (by decide) rfl ?_
    refine ks_addN dX16_sign_227 rfl ?_
    refine ks_istore dX16_sign_228 (by decide) rfl ?_
    refine ks_sub [(6, _), (0, _), (1, _), (2, _), (3, _), (4, _), (5, _), (7, _)] rfl ?_
    refine ks_incN (c := 1) (e := ys.length + 1) dX16_sign_230 rfl (by decide) rfl (by decide) rfl ?_
    refine ks_sub [(7, _), (0, _), (1, _), (2, _), (3, _), (4, _), (5, _), (6, _)] rfl ?_
    refine ks_goto (tgt := 201) dX16_sign_233 (by decide) ?_
    refine ks_sub [(0, _), (1, _), (2, _), (3, _), (4, _), (5, _), (6, .int (nI (5 + (catL inL (ys ++ [x])).length))), (7, .int (nI (ys ++ [x]).length))] (by rw [← hnx, List.length_append]; rfl) (ih (ys ++ [x]) S2 V2 (by rw [hy, List.append_assoc]; rfl) (K1.trans J2))
abbrev LSa : List Nat := [291, 292, 293, 299, 305, 336, 371, 372, 373, 529, 534, 535, 536, 537, 538, 539, 540]
abbrev FSa : List Nat := [40, 41, 63, 87, 88, 89, 91, 107, 110]
/-- the reference's row of a draft's transaction -/
def dpS (S : ks_S) : Prop := (∃ v, S.2.2 534 = some (.inr (16, [v, .int (nI 0), .ref 535, .ref 536, .ref 537, .ref 538, .ref 539, .ref 540, .ref 541]))) ∧ ∀ r, r < 6 → ∃ f, S.2.2 (535 + r) = some (kN 12 f)
set_option maxRecDepth 100000 in
set_option maxHeartbeats 3200000 in
theorem l_sgA {l : Launch} {G : ks_G} {d : Nat} {S : ks_S} {V : Nat → Value} {i j kn ty r9 : Nat} {T c0 X0 : List Nat} {D : Nat → dTx} {g0 g5 g6 : Nat → Nat} (hO : S.2.2 290 = some (rfE V)) (hB : buX S V 531 1600 110 T) (v94 : V 94 = .int (nI (i + 1))) (hD : rdS S (i + 1) D) (hj : j < (D i).2.2.1.length) (hty : ty < 256) (h529 : S.2.2 529 = some (kB 131072 g0)) (k529 : kO g0) (hP : dpS S) (hC : ctX S V c0) (hM : mhR S) (h305 : S.2.2 305 = some (kB 32 g5)) (k5 : kO g5) (h336 : S.2.2 336 = some (kB 32 g6)) (k6 : kO g6) (hX0 : buX S V 373 16384 91 X0) {P9 : Option Value → ks_S → Prop} (hk : ∀ (S1 : ks_S) (V1 : Nat → Value), pbK LSa FSa S S1 V V1 → buX S1 V1 531 1600 110 [] → dpS S1 → (∃ c, ctX S1 V1 c) → mhR S1 → (∃ g, kO g ∧ S1.2.2 305 = some (kB 32 g)) → (∃ X, buX S1 V1 373 16384 91 X) → (∃ g, kO g ∧ S1.2.2 529 = some (kB 131072 g)) → (∃ gh, kO gh ∧ S1.2.2 336 = some (kB 32 gh) ∧ bytL gh 0 32 = sgD (D i) j ty T) → ks_X l G mX16_sign (d + 6) 278 [(0, .ref 290), (1, .int (nI j)), (2, .int (nI kn)), (3, .int (nI ty)), (4, .int (nI r9))] [] S1 P9) : ks_X l G mX16_sign (d + 6) 100 [(0, .ref 290), (1, .int (nI j)), (2, .int (nI kn)), (3, .int (nI ty)), (4, .int (nI r9))] [] S P9 := by
  have hi12 := hD.1
  have hDi := hD.le (show i < i + 1 by omega)
  obtain ⟨-, ver, loc, inp, out, ids, ix, seq, iln, val, oln, sc, so, U, A⟩ := id hD
  have hA := A i (by omega)
  have hOK : dOK (D i) := rdA_dOK hA
  obtain ⟨htx, hle4, hle8⟩ := tx_draft hOK
  have hlenI := (rdS_len (S := S) (t := i) (D := D) hA).1
  have hlenO := (rdS_len (S := S) (t := i) (D := D) hA).2
  obtain ⟨⟨h374, h375, h376, h377⟩, ⟨h378, kid⟩, ⟨h379, h453, h454, h528⟩, ⟨h380, h455⟩, hsc, ksc, hso, kso, hix⟩ := id U
  obtain ⟨vT, g, eT, kg, hT, em⟩ := id hB
  refine ks_aload_n dX16_sign_100 rfl rfl ?_
  refine ks_getf (T := TX16) (kf := 94) kx_2462 rfl in_X16 cl_X16 (by decide) hO rfl dX16_sign_101 rfl ?_
  refine ks_tv v94 ?_
  refine ks_iconst (x := nI 1) dX16_sign_104 (by decide) rfl ?_
  refine ks_subN (by omega) dX16_sign_105 rfl ?_
  refine ks_ti (y := nI (i)) rfl ?_
  refine ks_istore dX16_sign_106 (by decide) rfl ?_
  refine ks_sub [(5, _), (0, _), (1, _), (2, _), (3, _), (4, _)] rfl ?_
  refine ks_aload_n dX16_sign_108 rfl rfl ?_
  refine ks_iconst (x := nI 0) dX16_sign_109 (by decide) rfl ?_
  refine ks_putf (T := TX16) (kf := 107) kx_2475 rfl in_X16 tyX16_ok nmX16 cl_X16 (by decide) hO (Nat.le_of_ble_eq_true rfl) rfl rfl rfl rfl dX16_sign_110 rfl ?_
  refine md_put mdp_107 ?_
  refine ks_aload_n dX16_sign_113 rfl rfl ?_
  refine ks_iload dX16_sign_114 rfl rfl ?_
  refine ks_nm (fun S1 e1 => ?_)
  have u1 : ks_up S S1 [290] := by rw [e1]; exact ks_up_set _ _ (List.mem_singleton.mpr rfl)
  have o1 : S1.2.2 290 = some (rfE (va_up V 107 (.int (nI 0)))) := by rw [e1]; exact ks_set_same _ _ _
  clear e1
  have t1 : ∀ {a : Nat} {e : ks_E}, S.2.2 a = some e → a ≠ 290 → S1.2.2 a = some e := fun h1 h2 => u1.at h1 (by rw [List.mem_singleton]; exact h2)
  have B1 : buX S1 (va_up V 107 (.int (nI 0))) 529 131072 107 [] := ⟨va_up_self _ _ _, g0, t1 h529 (by decide), k529, Nat.zero_le _, rfl⟩
  refine ks_callV (n := 1) (M' := mX16_makeTx) (c_md_makeTx (i := i) o1 (hD.up u1 (fun x hx => by rw [List.mem_singleton] at hx; omega)) (by omega) B1 (by decide)) o1 cl_X16 rfl kx_1971 kx_1973 kxp_57 kx_30 kx_1974 (by decide +kernel) rfl (by decide) (Nat.le_of_ble_eq_true rfl) rfl dX16_sign_116 rfl (fun z2 S2 y2 => ?_)
  obtain ⟨rfl, V2, K2, v2, g2, e2, kg2, hl2, em2⟩ := y2
  rw [List.nil_append] at v2 hl2 em2
  have t2 : ∀ {a : Nat} {e : ks_E}, S.2.2 a = some e → a ≠ 290 → a ≠ 529 → S2.2.2 a = some e := fun h1 h2 h3 => K2.1.at (t1 h1 h2) (by simp only [List.mem_cons, List.not_mem_nil, or_false]; omega)
  have vv2 : ∀ k, k ≠ 107 → V2 k = V k := fun k hk => (K2.2.2 k hk).trans (va_up_ne _ _ hk)
  have hg2 : ∀ z, z < (txL (D i)).length → g2 z = mg (txL (D i)) z := fun z hz => bytL_mg em2 hz
  obtain ⟨⟨v0, hp0⟩, hpr⟩ := hP
  obtain ⟨a0, ha0⟩ := hpr 0 (by decide)
  obtain ⟨a1, ha1⟩ := hpr 1 (by decide)
  obtain ⟨a2, ha2⟩ := hpr 2 (by decide)
  obtain ⟨a3, ha3⟩ := hpr 3 (by decide)
  obtain ⟨a4, ha4⟩ := hpr 4 (by decide)
  obtain ⟨a5, ha5⟩ := hpr 5 (by decide)
  have o2 := K2.2.1
  have p2 := t2 hp0 (by decide) (by decide)
  have r02 := t2 ha0 (by decide) (by decide)
  have r12 := t2 ha1 (by decide) (by decide)
  have r22 := t2 ha2 (by decide) (by decide)
  have r32 := t2 ha3 (by decide) (by decide)
  have r42 := t2 ha4 (by decide) (by decide)
  have r52 := t2 ha5 (by decide) (by decide)
  have q376 := t2 h376 (by decide) (by decide)
  have q377 := t2 h377 (by decide) (by decide)
  refine ks_aload_n dX16_sign_119 rfl rfl ?_
  refine ks_getf (T := TX16) (kf := 114) kx_2482 rfl in_X16 cl_X16 (by decide) o2 rfl dX16_sign_120 rfl ?_
  refine ks_aload_n dX16_sign_123 rfl rfl ?_
  refine ks_getf (T := TX16) (kf := 106) kx_2474 rfl in_X16 cl_X16 (by decide) o2 rfl dX16_sign_124 rfl ?_
  refine ks_putN (T := TX13) (kf := 0) kx_1813 rfl in_X13 tyX13_ok nmX13 cl_X13 (by decide) p2 (Nat.le_of_ble_eq_true rfl) rfl rfl rfl rfl dX16_sign_127 rfl ?_
  refine ks_aload_n dX16_sign_130 rfl rfl ?_
  refine ks_getf (T := TX16) (kf := 114) kx_2482 rfl in_X16 cl_X16 (by decide) ((ks_set_ne _ _ (by decide)).trans o2) rfl dX16_sign_131 rfl ?_
  refine ks_getN (T := TX13) (kf := 2) kx_1816 rfl in_X13 cl_X13 (by decide) (ks_set_same _ _ _) rfl dX16_sign_134 rfl ?_
  refine ks_iconst (x := nI 0) dX16_sign_137 (by decide) rfl ?_
  refine ks_iconst (x := nI 0) dX16_sign_138 (by decide) rfl ?_
  refine ks_iastNN (i := 0) (v := 0) (by decide) ((ks_set_ne _ _ (by decide)).trans r02) (by decide) (by decide) dX16_sign_139 rfl ?_
  refine ks_aload_n dX16_sign_140 rfl rfl ?_
  refine ks_getf (T := TX16) (kf := 114) kx_2482 rfl in_X16 cl_X16 (by decide) ((ks_set_ne _ _ (by decide)).trans ((ks_set_ne _ _ (by decide)).trans o2)) rfl dX16_sign_141 rfl ?_
  refine ks_getN (T := TX13) (kf := 3) kx_1818 rfl in_X13 cl_X13 (by decide) ((ks_set_ne _ _ (by decide)).trans (ks_set_same _ _ _)) rfl dX16_sign_144 rfl ?_
  refine ks_iconst (x := nI 0) dX16_sign_147 (by decide) rfl ?_
  refine ks_aload_n dX16_sign_148 rfl rfl ?_
  refine ks_getf (T := TX16) (kf := 107) kx_2475 rfl in_X16 cl_X16 (by decide) ((ks_set_ne _ _ (by decide)).trans ((ks_set_ne _ _ (by decide)).trans o2)) rfl dX16_sign_149 rfl ?_
  refine ks_tv v2 ?_
  refine ks_iastNN (i := 0) (v := (txL (D i)).length) (by decide) ((ks_set_ne _ _ (by decide)).trans ((ks_set_ne _ _ (by decide)).trans r12)) (by decide) (by decide) dX16_sign_152 rfl ?_
  refine ks_aload_n dX16_sign_153 rfl rfl ?_
  refine ks_getf (T := TX16) (kf := 114) kx_2482 rfl in_X16 cl_X16 (by decide) ((ks_set_ne _ _ (by decide)).trans ((ks_set_ne _ _ (by decide)).trans ((ks_set_ne _ _ (by decide)).trans o2))) rfl dX16_sign_154 rfl ?_
  refine ks_getN (T := TX13) (kf := 4) kx_1820 rfl in_X13 cl_X13 (by decide) ((ks_set_ne _ _ (by decide)).trans ((ks_set_ne _ _ (by decide)).trans (ks_set_same _ _ _))) rfl dX16_sign_157 rfl ?_
  refine ks_iconst (x := nI 0) dX16_sign_160 (by decide) rfl ?_
  refine ks_aload_n dX16_sign_161 rfl rfl ?_
  refine ks_getf (T := TX16) (kf := 97) kx_2465 rfl in_X16 cl_X16 (by decide) ((ks_set_ne _ _ (by decide)).trans ((ks_set_ne _ _ (by decide)).trans ((ks_set_ne _ _ (by decide)).trans o2))) rfl dX16_sign_162 rfl ?_
  refine ks_iload dX16_sign_165 rfl rfl ?_
  refine ks_ialdN (i := i) ((ks_set_ne _ _ (by decide)).trans ((ks_set_ne _ _ (by decide)).trans ((ks_set_ne _ _ (by decide)).trans q376))) rfl (by omega) (by decide) dX16_sign_167 rfl ?_
  refine ks_iastNN (i := 0) (v := inp i) (by decide) ((ks_set_ne _ _ (by decide)).trans ((ks_set_ne _ _ (by decide)).trans ((ks_set_ne _ _ (by decide)).trans r22))) (by decide) (by decide) dX16_sign_168 rfl ?_
  refine ks_aload_n dX16_sign_169 rfl rfl ?_
  refine ks_getf (T := TX16) (kf := 114) kx_2482 rfl in_X16 cl_X16 (by decide) ((ks_set_ne _ _ (by decide)).trans ((ks_set_ne _ _ (by decide)).trans ((ks_set_ne _ _ (by decide)).trans ((ks_set_ne _ _ (by decide)).trans o2)))) rfl dX16_sign_170 rfl ?_
  refine ks_getN (T := TX13) (kf := 6) kx_1824 rfl in_X13 cl_X13 (by decide) ((ks_set_ne _ _ (by decide)).trans ((ks_set_ne _ _ (by decide)).trans ((ks_set_ne _ _ (by decide)).trans (ks_set_same _ _ _)))) rfl dX16_sign_173 rfl ?_
  refine ks_iconst (x := nI 0) dX16_sign_176 (by decide) rfl ?_
  refine ks_iconst (x := nI 5) dX16_sign_177 (by decide) rfl ?_
  refine ks_iastNN (i := 0) (v := 5) (by decide) ((ks_set_ne _ _ (by decide)).trans ((ks_set_ne _ _ (by decide)).trans ((ks_set_ne _ _ (by decide)).trans ((ks_set_ne _ _ (by decide)).trans r42)))) (by decide) (by decide) dX16_sign_178 rfl ?_
  refine ks_aload_n dX16_sign_179 rfl rfl ?_
  refine ks_getf (T := TX16) (kf := 114) kx_2482 rfl in_X16 cl_X16 (by decide) ((ks_set_ne _ _ (by decide)).trans ((ks_set_ne _ _ (by decide)).trans ((ks_set_ne _ _ (by decide)).trans ((ks_set_ne _ _ (by decide)).trans ((ks_set_ne _ _ (by decide)).trans o2))))) rfl dX16_sign_180 rfl ?_
  refine ks_getN (T := TX13) (kf := 5) kx_1822 rfl in_X13 cl_X13 (by decide) ((ks_set_ne _ _ (by decide)).trans ((ks_set_ne _ _ (by decide)).trans ((ks_set_ne _ _ (by decide)).trans ((ks_set_ne _ _ (by decide)).trans (ks_set_same _ _ _))))) rfl dX16_sign_183 rfl ?_
  refine ks_iconst (x := nI 0) dX16_sign_186 (by decide) rfl ?_
  refine ks_aload_n dX16_sign_187 rfl rfl ?_
  refine ks_getf (T := TX16) (kf := 98) kx_2466 rfl in_X16 cl_X16 (by decide) ((ks_set_ne _ _ (by decide)).trans ((ks_set_ne _ _ (by decide)).trans ((ks_set_ne _ _ (by decide)).trans ((ks_set_ne _ _ (by decide)).trans ((ks_set_ne _ _ (by decide)).trans o2))))) rfl dX16_sign_188 rfl ?_
  refine ks_iload dX16_sign_191 rfl rfl ?_
  refine ks_ialdN (i := i) ((ks_set_ne _ _ (by decide)).trans ((ks_set_ne _ _ (by decide)).trans ((ks_set_ne _ _ (by decide)).trans ((ks_set_ne _ _ (by decide)).trans ((ks_set_ne _ _ (by decide)).trans q377))))) rfl (by omega) (by decide) dX16_sign_193 rfl ?_
  refine ks_iastNN (i := 0) (v := out i) (by decide) ((ks_set_ne _ _ (by decide)).trans ((ks_set_ne _ _ (by decide)).trans ((ks_set_ne _ _ (by decide)).trans ((ks_set_ne _ _ (by decide)).trans ((ks_set_ne _ _ (by decide)).trans r32))))) (by decide) (by decide) dX16_sign_194 rfl ?_
  refine ks_iconst (x := nI 5) dX16_sign_195 (by decide) rfl ?_
  refine ks_istore dX16_sign_196 (by decide) rfl ?_
  refine ks_sub [(6, _), (0, _), (1, _), (2, _), (3, _), (4, _), (5, _)] rfl ?_
  refine ks_iconst (x := nI 0) dX16_sign_198 (by decide) rfl ?_
  refine ks_istore dX16_sign_199 (by decide) rfl ?_
  refine ks_sub [(7, _), (0, _), (1, _), (2, _), (3, _), (4, _), (5, _), (6, _)] rfl ?_
  refine ks_nm (fun S3 e3 => ?_)
  have u3 : ks_up S2 S3 [534, 535, 536, 537, 538, 539] := by rw [e3]; exact ks_upL (ks_upL (ks_upL (ks_upL (ks_upL (ks_up_set _ _ (by decide)) (by decide)) (by decide)) (by decide)) (by decide)) (by decide)
  have p3 : S3.2.2 534 = some (.inr (16, [.ref 529, .int (nI 0), .ref 535, .ref 536, .ref 537, .ref 538, .ref 539, .ref 540, .ref 541])) := by rw [e3]; exact ((ks_set_ne _ _ (by decide)).trans ((ks_set_ne _ _ (by decide)).trans ((ks_set_ne _ _ (by decide)).trans ((ks_set_ne _ _ (by decide)).trans ((ks_set_ne _ _ (by decide)).trans (ks_set_same _ _ _))))))
  have s03 : S3.2.2 535 = some (kN 12 (va_up a0 0 0)) := by rw [e3]; exact ((ks_set_ne _ _ (by decide)).trans ((ks_set_ne _ _ (by decide)).trans ((ks_set_ne _ _ (by decide)).trans ((ks_set_ne _ _ (by decide)).trans (ks_set_same _ _ _)))))
  have s13 : S3.2.2 536 = some (kN 12 (va_up a1 0 (txL (D i)).length)) := by rw [e3]; exact ((ks_set_ne _ _ (by decide)).trans ((ks_set_ne _ _ (by decide)).trans ((ks_set_ne _ _ (by decide)).trans (ks_set_same _ _ _))))
  have s23 : S3.2.2 537 = some (kN 12 (va_up a2 0 (inp i))) := by rw [e3]; exact ((ks_set_ne _ _ (by decide)).trans ((ks_set_ne _ _ (by decide)).trans (ks_set_same _ _ _)))
  have s43 : S3.2.2 539 = some (kN 12 (va_up a4 0 5)) := by rw [e3]; exact ((ks_set_ne _ _ (by decide)).trans (ks_set_same _ _ _))
  have s33 : S3.2.2 538 = some (kN 12 (va_up a3 0 (out i))) := by rw [e3]; exact (ks_set_same _ _ _)
  clear e3
  have t3 : ∀ {a : Nat} {e : ks_E}, S2.2.2 a = some e → (a < 534 ∨ 539 < a) → S3.2.2 a = some e := fun h1 h2 => u3.at h1 (by simp only [List.mem_cons, List.not_mem_nil, or_false]; omega)
  have o3 := t3 o2 (by decide)
  refine ks_sub [(0, _), (1, _), (2, _), (3, _), (4, _), (5, _), (6, .int (nI (5 + (catL inL []).length))), (7, .int (nI ([] : List dIn).length))] rfl (l_sgP (d := d + 4) (D := D i) o3 hOK (t3 e2 (by decide)) kg2 hg2 (t3 q376 (by decide)) (by omega) hlenI.symm (by omega) (fun S4 V4 K4 => ?_) (D i).2.2.1 [] S3 V2 rfl ⟨ks_up.rf _ _, o3, fun _ _ _ => rfl⟩)
  have t4 : ∀ {a : Nat} {e : ks_E}, S3.2.2 a = some e → a ≠ 290 → S4.2.2 a = some e := fun h1 h2 => K4.1.at h1 (by rw [List.mem_singleton]; exact h2)
  have o4 := K4.2.1
  have vv4 : ∀ k, k ≠ 40 → k ≠ 41 → k ≠ 107 → V4 k = V k := fun k h1 h2 h3 => (K4.2.2 k h1 h2).trans (vv2 k h3)
  have r54 := t4 (t3 r52 (by decide)) (by decide)
  have p4 := t4 p3 (by decide)
  have vt4 : V4 110 = .int (nI T.length) := (vv4 110 (by decide) (by decide) (by decide)).trans vT
  refine ks_aload_n dX16_sign_236 rfl rfl ?_
  refine ks_getf (T := TX16) (kf := 114) kx_2482 rfl in_X16 cl_X16 (by decide) o4 rfl dX16_sign_237 rfl ?_
  refine ks_getN (T := TX13) (kf := 7) kx_1826 rfl in_X13 cl_X13 (by decide) p4 rfl dX16_sign_240 rfl ?_
  refine ks_iconst (x := nI 0) dX16_sign_243 (by decide) rfl ?_
  refine ks_iload dX16_sign_244 rfl rfl ?_
  refine ks_iconst (x := nI 1) dX16_sign_246 (by decide) rfl ?_
  refine ks_addN dX16_sign_247 rfl ?_
  refine ks_iastNN (i := 0) (v := 5 + (catL inL (D i).2.2.1).length + 1) (by decide) r54 (by decide) (by decide) dX16_sign_248 rfl ?_
  refine ks_aload_n dX16_sign_249 rfl rfl ?_
  refine ks_aload_n dX16_sign_250 rfl rfl ?_
  refine ks_getf (T := TX16) (kf := 109) kx_2477 rfl in_X16 cl_X16 (by decide) ((ks_set_ne _ _ (by decide)).trans o4) rfl dX16_sign_251 rfl ?_
  refine ks_iconst (x := nI 0) dX16_sign_254 (by decide) rfl ?_
  refine ks_aload_n dX16_sign_255 rfl rfl ?_
  refine ks_getf (T := TX16) (kf := 110) kx_2478 rfl in_X16 cl_X16 (by decide) ((ks_set_ne _ _ (by decide)).trans o4) rfl dX16_sign_256 rfl ?_
  refine ks_tv vt4 ?_
  refine ks_nm (fun S5 e5 => ?_)
  have u5 : ks_up S4 S5 [540] := by rw [e5]; exact ks_up_set _ _ (List.mem_singleton.mpr rfl)
  have s53 : S5.2.2 540 = some (kN 12 (va_up a5 0 (5 + (catL inL (D i).2.2.1).length + 1))) := by rw [e5]; exact ks_set_same _ _ _
  clear e5
  have t5 : ∀ {a : Nat} {e : ks_E}, S4.2.2 a = some e → a ≠ 540 → S5.2.2 a = some e := fun h1 h2 => u5.at h1 (by rw [List.mem_singleton]; exact h2)
  have o5 := t5 o4 (by decide)
  have ta : ∀ {a : Nat} {e : ks_E}, S.2.2 a = some e → a ≠ 290 → a ≠ 529 → (a < 534 ∨ 540 < a) → S5.2.2 a = some e := fun h1 h2 h3 h4 => t5 (t4 (t3 (t2 h1 h2 h3) (by omega)) h2) (by omega)
  have C5 : ctX S5 V4 c0 := by
    obtain ⟨a, b, ga, gb, q1, q2, q3, q4, q5, q6, q7, q8, q9⟩ := hC
    have hab : (a = 371 ∨ a = 372) ∧ (b = 371 ∨ b = 372) := by omega
    exact ⟨a, b, ga, gb, q1, (vv4 87 (by decide) (by decide) (by decide)).trans q2, (vv4 88 (by decide) (by decide) (by decide)).trans q3, ta q4 (by omega) (by omega) (by omega), q5, ta q6 (by omega) (by omega) (by omega), q7, (vv4 89 (by decide) (by decide) (by decide)).trans q8, q9⟩
  refine ks_callV (n := 3) (M' := mX16_load) (c_md_load o5 C5 (ta eT (by decide) (by decide) (by decide)) kg (s := 0) (n := T.length) (by omega) (by decide) (by omega) (by decide)) o5 cl_X16 rfl kx_2237 kx_2239 kxp_103 kx_30 kx_2240 (by decide +kernel) rfl (by decide) (Nat.le_of_ble_eq_true rfl) rfl dX16_sign_259 rfl (fun z6 S6 y6 => ?_)
  obtain ⟨rfl, V6, K6, C6⟩ := y6
  rw [← em] at C6
  have t6 : ∀ {a : Nat} {e : ks_E}, S5.2.2 a = some e → a ≠ 290 → (a < 371 ∨ 372 < a) → S6.2.2 a = some e := fun h1 h2 h3 => K6.1.at h1 (fun hm => by simp only [LCt, List.mem_cons, List.not_mem_nil, or_false] at hm; omega)
  have o6 := K6.2.1
  have vt6 : V6 110 = .int (nI T.length) := (K6.2.2 110 (by decide) (by decide) (by decide) (by decide)).trans vt4
  refine ks_aload_n dX16_sign_262 rfl rfl ?_
  refine ks_iconst (x := nI 0) dX16_sign_263 (by decide) rfl ?_
  refine ks_putf (T := TX16) (kf := 110) kx_2478 rfl in_X16 tyX16_ok nmX16 cl_X16 (by decide) o6 (Nat.le_of_ble_eq_true rfl) rfl rfl rfl rfl dX16_sign_264 rfl ?_
  refine md_put mdp_110 ?_
  refine ks_aload_n dX16_sign_267 rfl rfl ?_
  refine ks_aload_n dX16_sign_268 rfl rfl ?_
  refine ks_getf (T := TX16) (kf := 114) kx_2482 rfl in_X16 cl_X16 (by decide) (ks_set_same _ _ _) rfl dX16_sign_269 rfl ?_
  refine ks_iconst (x := nI 0) dX16_sign_272 (by decide) rfl ?_
  refine ks_iload_n dX16_sign_273 rfl rfl ?_
  refine ks_iload_n dX16_sign_274 rfl rfl ?_
  refine ks_nm (fun S7 e7 => ?_)
  have u7 : ks_up S6 S7 [290] := by rw [e7]; exact ks_up_set _ _ (List.mem_singleton.mpr rfl)
  have o7 : S7.2.2 290 = some (rfE (va_up V6 110 (.int (nI 0)))) := by rw [e7]; exact ks_set_same _ _ _
  clear e7
  have t7 : ∀ {a : Nat} {e : ks_E}, S5.2.2 a = some e → a ≠ 290 → (a < 371 ∨ 372 < a) → S7.2.2 a = some e := fun h1 h2 h3 => u7.at (t6 h1 h2 h3) (by rw [List.mem_singleton]; exact h2)
  have tb : ∀ {a : Nat} {e : ks_E}, S.2.2 a = some e → a ≠ 290 → a ≠ 529 → (a < 534 ∨ 540 < a) → (a < 371 ∨ 372 < a) → S7.2.2 a = some e := fun h1 h2 h3 h4 h5 => t7 (ta h1 h2 h3 h4) h2 h5
  have vv7 : ∀ k, k ≠ 40 → k ≠ 41 → k ≠ 63 → k ≠ 87 → k ≠ 88 → k ≠ 89 → k ≠ 107 → k ≠ 110 → va_up V6 110 (.int (nI 0)) k = V k := fun k h1 h2 h3 h4 h5 h6 h7 h8 => (va_up_ne _ _ h8).trans ((K6.2.2 k h3 h4 h5 h6).trans (vv4 k h1 h2 h7))
  have C7 : ctX S7 (va_up V6 110 (.int (nI 0))) T := by
    obtain ⟨a, b, ga, gb, q1, q2, q3, q4, q5, q6, q7, q8, q9⟩ := C6
    have hab : (a = 371 ∨ a = 372) ∧ (b = 371 ∨ b = 372) := by omega
    exact ⟨a, b, ga, gb, q1, (va_up_ne _ _ (by decide)).trans q2, (va_up_ne _ _ (by decide)).trans q3, u7.at q4 (by rw [List.mem_singleton]; omega), q5, u7.at q6 (by rw [List.mem_singleton]; omega), q7, (va_up_ne _ _ (by decide)).trans q8, q9⟩
  have uM : ∀ x ∈ LSa, x < 291 ∨ 299 < x ∨ x ∈ LSa := fun x hx => Or.inr (Or.inr hx)
  have M7 : mhR S7 := by
    have m2 : mhR S2 := (hM.up u1 (by decide)).up K2.1 (by decide)
    have m4 : mhR S4 := (m2.up u3 (by decide)).up K4.1 (by decide)
    exact ((m4.up u5 (by decide)).up K6.1 (fun x hx => by simp only [LCt, List.mem_cons, List.not_mem_nil, or_false] at hx; omega)).up u7 (by decide)
  have X7 : buX S7 (va_up V6 110 (.int (nI 0))) 373 16384 91 X0 := by
    obtain ⟨b1, b2, b3, b4⟩ := hX0
    exact ⟨(vv7 91 (by decide) (by decide) (by decide) (by decide) (by decide) (by decide) (by decide) (by decide)).trans b1, b2, tb b3 (by decide) (by decide) (by decide) (by decide), b4⟩
  have e7 := t7 (t5 (t4 (t3 e2 (by decide)) (by decide)) (by decide)) (by decide) (by decide)
  have pt7 : ptQv S7 534 529 131072 (mg (txL (D i))) (txL (D i)).length 0 0 (D i).2.2.1.length 5 (D i).2.2.2.length (5 + (catL inL (D i).2.2.1).length + 1) (txL (D i)).length := by
    refine ⟨g2, fun r => if r = 0 then va_up a0 0 0 else if r = 1 then va_up a1 0 (txL (D i)).length else if r = 2 then va_up a2 0 (inp i) else if r = 3 then va_up a3 0 (out i) else if r = 4 then va_up a4 0 5 else va_up a5 0 (5 + (catL inL (D i).2.2.1).length + 1), 0, ⟨e7, kg2⟩, ⟨hl2, by decide, by decide, by decide⟩, hg2, htx, t7 (t5 p4 (by decide)) (by decide) (by decide), fun r hr => ?_, ⟨show va_up a0 0 0 0 = 0 from va_up_self _ _ _, show va_up a1 0 (txL (D i)).length 0 = _ from va_up_self _ _ _⟩, ⟨show va_up a2 0 (inp i) 0 = _ from (va_up_self _ _ _).trans hlenI.symm, show va_up a3 0 (out i) 0 = _ from (va_up_self _ _ _).trans hlenO.symm⟩, show va_up a4 0 5 0 = 5 from va_up_self _ _ _, show va_up a5 0 (5 + (catL inL (D i).2.2.1).length + 1) 0 = _ from va_up_self _ _ _⟩
    rcases (show r = 0 ∨ r = 1 ∨ r = 2 ∨ r = 3 ∨ r = 4 ∨ r = 5 by omega) with rfl | rfl | rfl | rfl | rfl | rfl
    · exact t7 (t5 (t4 s03 (by decide)) (by decide)) (by decide) (by decide)
    · exact t7 (t5 (t4 s13 (by decide)) (by decide)) (by decide) (by decide)
    · exact t7 (t5 (t4 s23 (by decide)) (by decide)) (by decide) (by decide)
    · exact t7 (t5 (t4 s33 (by decide)) (by decide)) (by decide) (by decide)
    · exact t7 (t5 (t4 s43 (by decide)) (by decide)) (by decide) (by decide)
    · exact t7 s53 (by decide) (by decide)
  have hfl : fl_ (fun o _ => decide (o = 171)) T = cln_ [] T := cln_wo [] T
  have hT16 := fl_len (fun o _ => decide (o = 171)) T.length T (Nat.le_refl _)
  have kmg : kO (mg (txL (D i))) := fun z => by
    by_cases hz : z < (txL (D i)).length
    · rw [← hg2 z hz]; exact kg2 z
    · rw [mg_out (by omega)]; decide
  refine ks_callV (n := 4) (M' := mX16_hashed) (c_pt_hashedv (d := d) o7 pt7 kmg C7 M7 (tb h305 (by decide) (by decide) (by decide) (by decide)) k5 (tb h336 (by decide) (by decide) (by decide) (by decide)) k6 X7 (fun x hx => by simp only [LHs, List.mem_cons, List.not_mem_nil, or_false] at hx; omega) hj hty (fun h3 => Nat.le_trans (sgL_le htx hj (by omega) (by omega) h3) (by decide))) o7 cl_X16 rfl kx_2256 kx_2258 kxp_107 kx_30 kx_2259 (by decide +kernel) rfl (by decide) (Nat.le_of_ble_eq_true rfl) rfl dX16_sign_275 rfl (fun z8 S8 y8 => ?_)
  obtain ⟨rfl, V8, X8, ⟨⟨u8, o8, vv8⟩, -, C8, ⟨M8, f58⟩, -, B8⟩, gh, kgh, e336, hgh⟩ := y8
  have t8 : ∀ {a : Nat} {e : ks_E}, S7.2.2 a = some e → a ∉ LHs → S8.2.2 a = some e := fun h1 h2 => u8.at h1 h2
  refine ks_sub [(0, _), (1, _), (2, _), (3, _), (4, _)] rfl (hk S8 V8 ⟨?_, o8, fun k hk9 => ?_⟩ ?_ ?_ ⟨_, C8⟩ M8 f58 ⟨_, B8⟩ ⟨g2, kg2, t8 e7 (by decide)⟩ ⟨gh, kgh, e336, ?_⟩)
  · refine (((((((u1.mono ?_).trans (K2.1.mono ?_)).trans (u3.mono ?_)).trans (K4.1.mono ?_)).trans (u5.mono ?_)).trans (K6.1.mono ?_)).trans (u7.mono ?_)).trans (u8.mono ?_)
    all_goals (intro a ha; revert a; decide)
  · simp only [FSa, List.mem_cons, List.not_mem_nil, or_false, not_or] at hk9
    obtain ⟨q1, q2, q3, q4, q5, q6, q7, q8, q9⟩ := hk9
    exact (vv8 k q1 q2 q3 q4 q5 q6 q7).trans (vv7 k q1 q2 q3 q4 q5 q6 q8 q9)
  · exact ⟨(vv8 110 (by decide) (by decide) (by decide) (by decide) (by decide) (by decide) (by decide)).trans (va_up_self _ _ _), g, t8 (tb eT (by decide) (by decide) (by decide) (by decide)) (by decide), kg, Nat.zero_le _, rfl⟩
  · refine ⟨⟨_, t8 (t7 (t5 p4 (by decide)) (by decide) (by decide)) (by decide)⟩, fun r hr => ?_⟩
    rcases (show r = 0 ∨ r = 1 ∨ r = 2 ∨ r = 3 ∨ r = 4 ∨ r = 5 by omega) with rfl | rfl | rfl | rfl | rfl | rfl
    · exact ⟨_, t8 (t7 (t5 (t4 s03 (by decide)) (by decide)) (by decide) (by decide)) (by decide)⟩
    · exact ⟨_, t8 (t7 (t5 (t4 s13 (by decide)) (by decide)) (by decide) (by decide)) (by decide)⟩
    · exact ⟨_, t8 (t7 (t5 (t4 s23 (by decide)) (by decide)) (by decide) (by decide)) (by decide)⟩
    · exact ⟨_, t8 (t7 (t5 (t4 s33 (by decide)) (by decide)) (by decide) (by decide)) (by decide)⟩
    · exact ⟨_, t8 (t7 (t5 (t4 s43 (by decide)) (by decide)) (by decide) (by decide)) (by decide)⟩
    · exact ⟨_, t8 (t7 s53 (by decide) (by decide)) (by decide)⟩
  · rw [hgh, hfl]
    rfl
