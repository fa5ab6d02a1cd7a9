/-! THE REFERENCE: a transaction looked at alone -/
theorem skK.pd {S S1 : ks_S} {V V1 : Nat → Value} {P y N : Nat} {M : List Nat} (h : skK S S1 V V1) (k : pdK S P y N M) : pdK S1 P y N M := by
  obtain ⟨g, A, gi, a, b, c, d, e, f⟩ := id k
  exact k.up h.1 (fun x hx => by rw [List.mem_singleton] at hx; omega)
theorem skK.rf {S : ks_S} {V : Nat → Value} (h : S.2.2 290 = some (rfE V)) : skK S S V V := ⟨ks_up.rf _ _, h, fun _ _ _ => rfl⟩
theorem sum_mn {f : Nat → Nat} {n m : Nat} (h : n ≤ m) : sum_ f n ≤ sum_ f m := by
  obtain ⟨k, rfl⟩ := Nat.exists_eq_add_of_le h
  induction k with
  | zero => exact Nat.le_refl _
  | succ k ih => exact Nat.le_trans (ih (by omega)) (by show _ ≤ sum_ f (n + k) + _; omega)
set_option maxRecDepth 100000 in
set_option maxHeartbeats 800000 in
theorem c_pd_isNone {l : Launch} {G : ks_G} {d : Nat} {S : ks_S} {V : Nat → Value} {P y N : Nat} {M : List Nat} (hO : S.2.2 290 = some (rfE V)) (hK : pdK S P y N M) {t i : Nat} (ht : t < mg M 80) (hi : i < (txP M t).1) : ks_P l G yX16_isNone mX16_isNone (d + 1) [.ref 290, .ref P, .int (nI (inA M t i))] S (fun z S' => z = some (.int (ks_bo (none_b (mg M) (inA M t i)))) ∧ S' = S) := by
  obtain ⟨g, A, gi, ⟨ey, kg⟩, ⟨hMN, hN16, hPB, hP6, hy6⟩, hg, hbl, X, hA⟩ := id hK
  obtain ⟨b1, b2, b3, b4, b5, b6⟩ := bk_tx hbl ht
  obtain ⟨k9, p9, m9, u9, e9, etx⟩ : ∃ k p m u e, txP M t = (k, p, m, u, e) := ⟨_, _, _, _, _, rfl⟩
  rw [etx] at b3 hi
  have hi : i < k9 := hi
  obtain ⟨i1, i2, i3, i4, i5, i6⟩ := tx_in b3 i hi
  have e1 := none_c (f := g) hg b3 hi
  rw [iA_c hg] at e1
  have e2 : inA M t i = iA (mg M) M.length p9 i := by unfold inA; rw [etx]
  rw [e2, ← e1]
  exact c_md_isNone hO X.1 ey kg (by omega) (by omega)
set_option maxRecDepth 100000 in
set_option maxHeartbeats 800000 in
theorem c_pd_alike36 {l : Launch} {G : ks_G} {d : Nat} {S : ks_S} {P y N t i k : Nat} {M : List Nat} (hK : pdK S P y N M) (ht : t < mg M 80) (hi : i < (txP M t).1) (hk : k < (txP M t).1) : ks_P l G yX16_alike mX16_alike d [.ref y, .int (nI (inA M t i)), .ref y, .int (nI (inA M t k)), .int (nI 36)] S (fun z S' => z = some (.int (ks_bo ((List.range 36).all (fun q => mg M (inA M t i + q) == mg M (inA M t k + q))))) ∧ S' = S) := by
  obtain ⟨g, A, gi, ⟨ey, kg⟩, ⟨hMN, hN16, hPB, hP6, hy6⟩, hg, hbl, X, hA⟩ := id hK
  obtain ⟨b1, b2, b3, b4, b5, b6⟩ := bk_tx hbl ht
  obtain ⟨k9, p9, m9, u9, e9, etx⟩ : ∃ k p m u e, txP M t = (k, p, m, u, e) := ⟨_, _, _, _, _, rfl⟩
  rw [etx] at b3 hi hk
  have i1 := tx_in b3 i hi
  have k1 := tx_in b3 k hk
  have bI : inA M t i + 37 ≤ M.length := by have : inA M t i = iA (mg M) M.length p9 i := by unfold inA; rw [etx]
                                            omega
  have bJ : inA M t k + 37 ≤ M.length := by have : inA M t k = iA (mg M) M.length p9 k := by unfold inA; rw [etx]
                                            omega
  refine (c_md_alike (n := 36) ey kg ey kg (by omega) (by omega) (by omega) (by omega)).mono (fun z S' h => ⟨h.1.trans ?_, h.2⟩)
  congr 3
  rw [Bool.eq_iff_iff, decide_eq_true_eq, List.all_eq_true]
  constructor
  · intro h q hq
    have hq := List.mem_range.mp hq
    rw [← hg _ (by omega), ← hg _ (by omega), h q hq]
    exact beq_self_eq_true _
  · intro h q hq
    have := beq_iff_eq.mp (h q (List.mem_range.mpr hq))
    rw [hg _ (by omega), hg _ (by omega), this]
set_option maxRecDepth 100000 in
set_option maxHeartbeats 1600000 in
theorem l_alIn {l : Launch} {G : ks_G} {d : Nat} {S : ks_S} {V : Nat → Value} {P y N : Nat} {M : List Nat} (hO : S.2.2 290 = some (rfE V)) (hK : pdK S P y N M) {t k p m u e : Nat} (ht : t < mg M 80) (etx : txP M t = (k, p, m, u, e)) (hk1 : t = 0 → k = 1) : ∀ (w i : Nat) (S1 : ks_S) (V1 : Nat → Value), i + w = k → skK S S1 V V1 → (t = 0 → 0 < i → ¬ (iZ (mg M) M.length p 0 < 2 ∨ 100 < iZ (mg M) M.length p 0)) → (t ≠ 0 → ∀ j, j < i → ¬ (none_b (mg M) (iA (mg M) M.length p j) = true ∨ dup_b (mg M) M.length p j = true)) → ks_X l G mX16_alone (d + 3) 168 [(0, .ref 290), (1, .ref P), (2, .int (nI t)), (7, .int (nI i))] [] S1 (fun z S' => z = some (.int (nI (if decide (t = 0) = true then (if iZ (mg M) M.length p 0 < 2 ∨ 100 < iZ (mg M) M.length p 0 then 8 else 0) else if ∃ i, i < k ∧ (none_b (mg M) (iA (mg M) M.length p i) = true ∨ dup_b (mg M) M.length p i = true) then 8 else 0))) ∧ ∃ V', skK S S' V V') := by
  have b9 := blk_b hK.bl
  obtain ⟨b1, b2, b3, b4, b5, b6⟩ := bk_tx hK.bl ht
  rw [etx] at b3
  have bd := tx_bd b3
  have hTo := tx_out b3
  have hTi := tx_in b3
  intro w
  induction w with
  | zero =>
    intro i S1 V1 hi K1 h0 h1
    have K := K1.pd hK
    have o1 := K1.2.1
    obtain ⟨g, A, gi, ⟨ey, kg⟩, ⟨hMN, hN16, hPB, hP6, hy6⟩, hg, hbl, X, hA⟩ := id K
    have r2 : S1.2.2 (P + 3) = some (kN 12 (A 2)) := X.2.1 2 (by decide)
    have r3 : S1.2.2 (P + 4) = some (kN 12 (A 3)) := X.2.1 3 (by decide)
    have r4 : S1.2.2 (P + 5) = some (kN 12 (A 4)) := X.2.1 4 (by decide)
    have r5 : S1.2.2 (P + 6) = some (kN 12 (A 5)) := X.2.1 5 (by decide)
    have aA := hA t ht
    rw [etx] at aA
    have a2 : A 2 t = k := aA.2.1.1
    have a3 : A 3 t = m := aA.2.1.2
    have a4 : A 4 t = p := aA.2.2.1.1
    have a5 : A 5 t = u := aA.2.2.1.2
    refine ks_iload dX16_alone_168 rfl rfl ?_
    refine ks_aload_n dX16_alone_170 rfl rfl ?_
    refine ks_getN (T := TX13) (kf := 4) kx_1820 rfl in_X13 cl_X13 (by decide) X.1 rfl dX16_alone_171 rfl ?_
    refine ks_iload_n dX16_alone_174 rfl rfl ?_
    refine ks_ialdN (i := t) r2 rfl (by omega) (by decide) dX16_alone_175 rfl ?_
    rw [a2]
    refine ks_icmp_geN (tgt := 292) (by omega) (by omega) dX16_alone_176 (by decide) rfl (fun h2 => ?_) (fun h2 => absurd h2 (by omega))
    refine ks_iconst (x := nI 0) dX16_alone_292 (by decide) rfl ?_
    refine ks_iret rfl dX16_alone_293 ?_
    obtain rfl : i = k := hi
    refine ⟨?_, V1, K1⟩
    by_cases t0 : t = 0
    · rw [if_pos (decide_eq_true t0), if_neg (h0 t0 (by have := hk1 t0; omega))]
    · rw [if_neg (by rw [decide_eq_false t0]; decide), if_neg (fun ⟨j, hj, hc⟩ => h1 t0 j hj hc)]
  | succ w ih =>
    intro i S1 V1 hi K1 h0 h1
    have K := K1.pd hK
    have o1 := K1.2.1
    obtain ⟨g, A, gi, ⟨ey, kg⟩, ⟨hMN, hN16, hPB, hP6, hy6⟩, hg, hbl, X, hA⟩ := id K
    have r2 : S1.2.2 (P + 3) = some (kN 12 (A 2)) := X.2.1 2 (by decide)
    have r3 : S1.2.2 (P + 4) = some (kN 12 (A 3)) := X.2.1 3 (by decide)
    have r4 : S1.2.2 (P + 5) = some (kN 12 (A 4)) := X.2.1 4 (by decide)
    have r5 : S1.2.2 (P + 6) = some (kN 12 (A 5)) := X.2.1 5 (by decide)
    have aA := hA t ht
    rw [etx] at aA
    have a2 : A 2 t = k := aA.2.1.1
    have a3 : A 3 t = m := aA.2.1.2
    have a4 : A 4 t = p := aA.2.2.1.1
    have a5 : A 5 t = u := aA.2.2.1.2
    refine ks_iload dX16_alone_168 rfl rfl ?_
    refine ks_aload_n dX16_alone_170 rfl rfl ?_
    refine ks_getN (T := TX13) (kf := 4) kx_1820 rfl in_X13 cl_X13 (by decide) X.1 rfl dX16_alone_171 rfl ?_
    refine ks_iload_n dX16_alone_174 rfl rfl ?_
    refine ks_ialdN (i := t) r2 rfl (by omega) (by decide) dX16_alone_175 rfl ?_
    rw [a2]
    refine ks_icmp_geN (tgt := 292) (by omega) (by omega) dX16_alone_176 (by decide) rfl (fun h2 => absurd h2 (by omega)) (fun h2 => ?_)
    have hik : i < (txP M t).1 := by rw [etx]; show i < k; omega
    have eI : inA M t i = iA (mg M) M.length p i := by unfold inA; rw [etx]
    refine ks_aload_n dX16_alone_179 rfl rfl ?_
    refine ks_aload_n dX16_alone_180 rfl rfl ?_
    refine ks_iload_n dX16_alone_181 rfl rfl ?_
    refine ks_iload dX16_alone_182 rfl rfl ?_
    refine ks_callV (n := 3) (M' := mX16_input) (c_pd_input (d := d) o1 K ht hik) o1 cl_X16 rfl kx_2122 kx_2124 kxp_78 kx_30 kx_2125 (by decide +kernel) rfl (by decide) (Nat.le_of_ble_eq_true rfl) rfl dX16_alone_184 rfl (fun z2 T2 y2 => ?_)
    obtain ⟨rfl, V2, K2⟩ := y2
    have KK2 := K1.trans K2
    have P2 := KK2.pd hK
    have o2 := K2.2.1
    obtain ⟨g2, A2, gi2, ⟨ey2, kg2⟩, ⟨hMN2, hN162, hPB2, hP62, hy62⟩, hg2, hbl2, X2, hA2⟩ := id P2
    have r22 : T2.2.2 (P + 3) = some (kN 12 (A2 2)) := X2.2.1 2 (by decide)
    have r32 : T2.2.2 (P + 4) = some (kN 12 (A2 3)) := X2.2.1 3 (by decide)
    have r42 : T2.2.2 (P + 5) = some (kN 12 (A2 4)) := X2.2.1 4 (by decide)
    have r52 : T2.2.2 (P + 6) = some (kN 12 (A2 5)) := X2.2.1 5 (by decide)
    have aA2 := hA2 t ht
    rw [etx] at aA2
    have a22 : A2 2 t = k := aA2.2.1.1
    have a32 : A2 3 t = m := aA2.2.1.2
    have a42 : A2 4 t = p := aA2.2.2.1.1
    have a52 : A2 5 t = u := aA2.2.2.1.2
    refine ks_istore dX16_alone_187 (by decide) rfl ?_
    refine ks_sub [(8, _), (0, _), (1, _), (2, _), (7, _)] rfl ?_
    refine ks_aload_n dX16_alone_189 rfl rfl ?_
    refine ks_aload_n dX16_alone_190 rfl rfl ?_
    refine ks_getN (T := TX13) (kf := 0) kx_1813 rfl in_X13 cl_X13 (by decide) X2.1 rfl dX16_alone_191 rfl ?_
    refine ks_iload dX16_alone_194 rfl rfl ?_
    refine ks_bipush (x := nI 36) dX16_alone_196 (by decide) rfl ?_
    refine ks_addN dX16_alone_198 rfl ?_
    refine ks_callV (n := 2) (M' := mX16_script) (c_pd_scrI (d := d + 1) o2 P2 ht hik) o2 cl_X16 rfl kx_2126 kx_2128 kxp_79 kx_30 kx_2129 (by decide +kernel) rfl (by decide) (Nat.le_of_ble_eq_true rfl) rfl dX16_alone_199 rfl (fun z3 T3 y3 => ?_)
    obtain ⟨rfl, V3, K3, v40, v41⟩ := y3
    rw [etx] at v41
    have KK3 := KK2.trans K3
    have P3 := KK3.pd hK
    have o3 := K3.2.1
    have zb := (hTi i (by omega))
    have v41 : V3 41 = .int (nI (iZ (mg M) M.length p i)) := v41
    obtain ⟨g3, A3, gi3, ⟨ey3, kg3⟩, ⟨hMN3, hN163, hPB3, hP63, hy63⟩, hg3, hbl3, X3, hA3⟩ := id P3
    have r23 : T3.2.2 (P + 3) = some (kN 12 (A3 2)) := X3.2.1 2 (by decide)
    have r33 : T3.2.2 (P + 4) = some (kN 12 (A3 3)) := X3.2.1 3 (by decide)
    have r43 : T3.2.2 (P + 5) = some (kN 12 (A3 4)) := X3.2.1 4 (by decide)
    have r53 : T3.2.2 (P + 6) = some (kN 12 (A3 5)) := X3.2.1 5 (by decide)
    have aA3 := hA3 t ht
    rw [etx] at aA3
    have a23 : A3 2 t = k := aA3.2.1.1
    have a33 : A3 3 t = m := aA3.2.1.2
    have a43 : A3 4 t = p := aA3.2.2.1.1
    have a53 : A3 5 t = u := aA3.2.2.1.2
    obtain ⟨zz, ezz⟩ : ∃ zz, zz = iZ (mg M) M.length p i := ⟨_, rfl⟩
    rw [← ezz] at v41 zb
    refine ks_pop dX16_alone_202 rfl rfl ?_
    refine ks_iload_n dX16_alone_203 rfl rfl ?_
    refine ks_if_neN (tgt := 224) (by omega) dX16_alone_204 (by decide) rfl (fun h3 => ?_) (fun h3 => ?_)
    · have t0 : ¬ t = 0 := h3
      refine ks_iload_n dX16_alone_224 rfl rfl ?_
      refine ks_if_leN (tgt := 241) (by omega) dX16_alone_225 (by decide) rfl (fun h4 => absurd h4 (by omega)) (fun h4 => ?_)
      refine ks_aload_n dX16_alone_228 rfl rfl ?_
      refine ks_aload_n dX16_alone_229 rfl rfl ?_
      refine ks_iload dX16_alone_230 rfl rfl ?_
      refine ks_callV (n := 2) (M' := mX16_isNone) (c_pd_isNone (d := d + 1) o3 P3 ht hik) o3 cl_X16 rfl kx_2832 kx_2834 kxp_138 kx_30 kx_2835 (by decide +kernel) rfl (by decide) (Nat.le_of_ble_eq_true rfl) rfl dX16_alone_232 rfl (fun z5 T5 y5 => ?_)
      obtain ⟨rfl, hT5⟩ := y5
      obtain rfl := hT5.symm
      rw [eI]
      refine ks_if_eqZ (tgt := 241) dX16_alone_235 (by decide) rfl (fun h5 => ?_) (fun h5 => ?_)
      · have inner : ∀ (v j : Nat) (S4 : ks_S) (V4 : Nat → Value), j + v = i → skK S S4 V V4 → (∀ a, a < j → (List.range 36).all (fun q => mg M (iA (mg M) M.length p a + q) == mg M (iA (mg M) M.length p i + q)) = false) → ks_X l G mX16_alone (d + 3) 244 [(0, .ref 290), (1, .ref P), (2, .int (nI t)), (7, .int (nI i)), (8, .int (nI (inA M t i))), (9, .int (nI j))] [] S4 (fun z S' => z = some (.int (nI (if decide (t = 0) = true then (if iZ (mg M) M.length p 0 < 2 ∨ 100 < iZ (mg M) M.length p 0 then 8 else 0) else if ∃ i, i < k ∧ (none_b (mg M) (iA (mg M) M.length p i) = true ∨ dup_b (mg M) M.length p i = true) then 8 else 0))) ∧ ∃ V', skK S S' V V') := by
          intro v
          induction v with
          | zero =>
            intro j S4 V4 hj K4 ha
            have P4 := K4.pd hK
            have o4 := K4.2.1
            obtain ⟨g4, A4, gi4, ⟨ey4, kg4⟩, ⟨hMN4, hN164, hPB4, hP64, hy64⟩, hg4, hbl4, X4, hA4⟩ := id P4
            have r24 : S4.2.2 (P + 3) = some (kN 12 (A4 2)) := X4.2.1 2 (by decide)
            have r34 : S4.2.2 (P + 4) = some (kN 12 (A4 3)) := X4.2.1 3 (by decide)
            have r44 : S4.2.2 (P + 5) = some (kN 12 (A4 4)) := X4.2.1 4 (by decide)
            have r54 : S4.2.2 (P + 6) = some (kN 12 (A4 5)) := X4.2.1 5 (by decide)
            refine ks_iload dX16_alone_244 rfl rfl ?_
            refine ks_iload dX16_alone_246 rfl rfl ?_
            refine ks_icmp_geN (tgt := 286) (by omega) (by omega) dX16_alone_248 (by decide) rfl (fun h6 => ?_) (fun h6 => absurd h6 (by omega))
            refine ks_incN (c := 1) (e := i + 1) dX16_alone_286 rfl (by decide) rfl (by decide) rfl ?_
            refine ks_sub [(7, _), (0, _), (1, _), (2, _), (8, _), (9, _)] rfl ?_
            refine ks_goto (tgt := 168) dX16_alone_289 (by decide) ?_
            obtain rfl : j = i := hj
            refine ks_sub [(0, _), (1, _), (2, _), (7, _)] rfl (ih (j + 1) S4 V4 (by omega) K4 (fun t1 => absurd t1 t0) (fun _ a hja => ?_))
            by_cases ea : a = j
            · subst ea
              intro hc
              rcases hc with hc | hc
              · rw [h5] at hc; cases hc
              · unfold dup_b at hc
                obtain ⟨b, hb, hb2⟩ := List.any_eq_true.mp hc
                rw [ha b (List.mem_range.mp hb)] at hb2
                cases hb2
            · exact h1 t0 a (by omega)
          | succ v ihv =>
            intro j S4 V4 hj K4 ha
            have P4 := K4.pd hK
            have o4 := K4.2.1
            obtain ⟨g4, A4, gi4, ⟨ey4, kg4⟩, ⟨hMN4, hN164, hPB4, hP64, hy64⟩, hg4, hbl4, X4, hA4⟩ := id P4
            have r24 : S4.2.2 (P + 3) = some (kN 12 (A4 2)) := X4.2.1 2 (by decide)
            have r34 : S4.2.2 (P + 4) = some (kN 12 (A4 3)) := X4.2.1 3 (by decide)
            have r44 : S4.2.2 (P + 5) = some (kN 12 (A4 4)) := X4.2.1 4 (by decide)
            have r54 : S4.2.2 (P + 6) = some (kN 12 (A4 5)) := X4.2.1 5 (by decide)
            refine ks_iload dX16_alone_244 rfl rfl ?_
            refine ks_iload dX16_alone_246 rfl rfl ?_
            refine ks_icmp_geN (tgt := 286) (by omega) (by omega) dX16_alone_248 (by decide) rfl (fun h6 => absurd h6 (by omega)) (fun h6 => ?_)
            have hjk : j < (txP M t).1 := by rw [etx]; show j < k; omega
            have eJ : inA M t j = iA (mg M) M.length p j := by unfold inA; rw [etx]
            refine ks_aload_n dX16_alone_251 rfl rfl ?_
            refine ks_getN (T := TX13) (kf := 0) kx_1813 rfl in_X13 cl_X13 (by decide) X4.1 rfl dX16_alone_252 rfl ?_
            refine ks_aload_n dX16_alone_255 rfl rfl ?_
            refine ks_aload_n dX16_alone_256 rfl rfl ?_
            refine ks_iload_n dX16_alone_257 rfl rfl ?_
            refine ks_iload dX16_alone_258 rfl rfl ?_
            refine ks_callV (n := 3) (M' := mX16_input) (c_pd_input (d := d) o4 P4 ht hjk) o4 cl_X16 rfl kx_2122 kx_2124 kxp_78 kx_30 kx_2125 (by decide +kernel) rfl (by decide) (Nat.le_of_ble_eq_true rfl) rfl dX16_alone_260 rfl (fun z6 T6 y6 => ?_)
            obtain ⟨rfl, V6, K6⟩ := y6
            have KK6 := K4.trans K6
            have P6 := KK6.pd hK
            have o6 := K6.2.1
            obtain ⟨g6, A6, gi6, ⟨ey6, kg6⟩, ⟨hMN6, hN166, hPB6, hP66, hy66⟩, hg6, hbl6, X6, hA6⟩ := id P6
            have r26 : T6.2.2 (P + 3) = some (kN 12 (A6 2)) := X6.2.1 2 (by decide)
            have r36 : T6.2.2 (P + 4) = some (kN 12 (A6 3)) := X6.2.1 3 (by decide)
            have r46 : T6.2.2 (P + 5) = some (kN 12 (A6 4)) := X6.2.1 4 (by decide)
            have r56 : T6.2.2 (P + 6) = some (kN 12 (A6 5)) := X6.2.1 5 (by decide)
            refine ks_aload_n dX16_alone_263 rfl rfl ?_
            refine ks_getN (T := TX13) (kf := 0) kx_1813 rfl in_X13 cl_X13 (by decide) X6.1 rfl dX16_alone_264 rfl ?_
            refine ks_iload dX16_alone_267 rfl rfl ?_
            refine ks_bipush (x := nI 36) dX16_alone_269 (by decide) rfl ?_
            refine ks_callS (n := 5) (M' := mX16_alike) (c_pd_alike36 (d := d + 2) P6 ht hjk hik) kx_2134 kx_2135 kx_30 kx_2136 (by decide +kernel) rfl (by decide) (Nat.le_of_ble_eq_true rfl) rfl dX16_alone_271 rfl (fun z7 T7 y7 => ?_)
            obtain ⟨rfl, hT7⟩ := y7
            obtain rfl := hT7.symm
            rw [eI, eJ]
            refine ks_if_eqZ (tgt := 280) dX16_alone_274 (by decide) rfl (fun h7 => ?_) (fun h7 => ?_)
            · refine ks_incN (c := 1) (e := j + 1) dX16_alone_280 rfl (by decide) rfl (by decide) rfl ?_
              refine ks_sub [(9, _), (0, _), (1, _), (2, _), (7, _), (8, _)] rfl ?_
              refine ks_goto (tgt := 244) dX16_alone_283 (by decide) ?_
              refine ks_sub [(0, _), (1, _), (2, _), (7, _), (8, .int (nI (inA M t i))), (9, _)] (by rw [eI]; rfl) (ihv (j + 1) T6 V6 (by omega) KK6 (fun a hja => ?_))
              by_cases ea : a = j
              · subst ea; exact h7
              · exact ha a (by omega)
            · refine ks_bipush (x := nI 8) dX16_alone_277 (by decide) rfl ?_
              refine ks_iret rfl dX16_alone_279 ?_
              refine ⟨?_, V6, KK6⟩
              rw [if_neg (by rw [decide_eq_false t0]; decide), if_pos ⟨i, by omega, Or.inr (List.any_eq_true.mpr ⟨j, List.mem_range.mpr (by omega), h7⟩)⟩]
        refine ks_iconst (x := nI 0) dX16_alone_241 (by decide) rfl ?_
        refine ks_istore dX16_alone_242 (by decide) rfl ?_
        refine ks_sub [(9, _), (0, _), (1, _), (2, _), (7, _), (8, _)] rfl ?_
        exact ks_sub [(0, _), (1, _), (2, _), (7, _), (8, .int (nI (inA M t i))), (9, _)] (by rw [eI]; rfl) (inner i 0 T3 V3 (by omega) KK3 (fun a h => absurd h (Nat.not_lt_zero _)))
      · refine ks_bipush (x := nI 8) dX16_alone_238 (by decide) rfl ?_
        refine ks_iret rfl dX16_alone_240 ?_
        refine ⟨?_, V3, KK3⟩
        rw [if_neg (by rw [decide_eq_false t0]; decide), if_pos ⟨i, by omega, Or.inl h5⟩]
    · have t0 : t = 0 := h3
      have ei0 : i = 0 := by have := hk1 t0; omega
      refine ks_aload_n dX16_alone_207 rfl rfl ?_
      refine ks_getf (T := TX16) (kf := 41) kx_2409 rfl in_X16 cl_X16 (by decide) o3 rfl dX16_alone_208 rfl ?_
      refine ks_tv v41 ?_
      refine ks_iconst (x := nI 2) dX16_alone_211 (by decide) rfl ?_
      refine ks_icmp_ltN (tgt := 238) (by omega) (by decide) dX16_alone_212 (by decide) rfl (fun h4 => ?_) (fun h4 => ?_)
      · refine ks_bipush (x := nI 8) dX16_alone_238 (by decide) rfl ?_
        refine ks_iret rfl dX16_alone_240 ?_
        refine ⟨?_, V3, KK3⟩
        rw [ei0] at ezz
        rw [if_pos (decide_eq_true t0), if_pos (by rw [← ezz]; omega)]
      · refine ks_aload_n dX16_alone_215 rfl rfl ?_
        refine ks_getf (T := TX16) (kf := 41) kx_2409 rfl in_X16 cl_X16 (by decide) o3 rfl dX16_alone_216 rfl ?_
        refine ks_tv v41 ?_
        refine ks_bipush (x := nI 100) dX16_alone_219 (by decide) rfl ?_
        refine ks_icmp_gtN (tgt := 238) (by omega) (by decide) dX16_alone_221 (by decide) rfl (fun h5 => ?_) (fun h5 => ?_)
        · refine ks_bipush (x := nI 8) dX16_alone_238 (by decide) rfl ?_
          refine ks_iret rfl dX16_alone_240 ?_
          refine ⟨?_, V3, KK3⟩
          rw [ei0] at ezz
          rw [if_pos (decide_eq_true t0), if_pos (by rw [← ezz]; omega)]
        · refine ks_iload_n dX16_alone_224 rfl rfl ?_
          refine ks_if_leN (tgt := 241) (by omega) dX16_alone_225 (by decide) rfl (fun h6 => ?_) (fun h6 => absurd h6 (by omega))
          refine ks_iconst (x := nI 0) dX16_alone_241 (by decide) rfl ?_
          refine ks_istore dX16_alone_242 (by decide) rfl ?_
          refine ks_sub [(9, _), (0, _), (1, _), (2, _), (7, _), (8, _)] rfl ?_
          refine ks_iload dX16_alone_244 rfl rfl ?_
          refine ks_iload dX16_alone_246 rfl rfl ?_
          refine ks_icmp_geN (tgt := 286) (by decide) (by omega) dX16_alone_248 (by decide) rfl (fun h7 => ?_) (fun h7 => absurd h7 (by omega))
          refine ks_incN (c := 1) (e := i + 1) dX16_alone_286 rfl (by decide) rfl (by decide) rfl ?_
          refine ks_sub [(7, _), (0, _), (1, _), (2, _), (8, _), (9, _)] rfl ?_
          refine ks_goto (tgt := 168) dX16_alone_289 (by decide) ?_
          exact ks_sub [(0, _), (1, _), (2, _), (7, _)] rfl (ih (i + 1) T3 V3 (by omega) KK3 (fun _ _ => by rw [ei0] at ezz; rw [← ezz]; omega) (fun t1 => absurd t0 t1))
set_option maxRecDepth 100000 in
set_option maxHeartbeats 1600000 in
theorem l_alOut {l : Launch} {G : ks_G} {d : Nat} {S : ks_S} {V : Nat → Value} {P y N : Nat} {M : List Nat} (hO : S.2.2 290 = some (rfE V)) (hK : pdK S P y N M) {t k p m u e : Nat} (ht : t < mg M 80) (etx : txP M t = (k, p, m, u, e)) (hk1 : t = 0 → k = 1) : ∀ (w i s x : Nat) (S1 : ks_S) (V1 : Nat → Value), i + w = m → skK S S1 V V1 → ot (mg M) M.length u i = some x → s = sum_ (val_ (mg M) M.length u) i → s ≤ 2100000000000000 → (∀ j, j < i → val_ (mg M) M.length u j ≤ 2100000000000000) → ks_X l G mX16_alone (d + 3) 81 [(0, .ref 290), (1, .ref P), (2, .int (nI t)), (4, .long (lN s)), (6, .int (nI x)), (7, .int (nI i))] [] S1 (fun z S' => z = some (.int (nI (if fit_b (mg M) M.length u m = false then 8 else (if decide (t = 0) = true then (if iZ (mg M) M.length p 0 < 2 ∨ 100 < iZ (mg M) M.length p 0 then 8 else 0) else if ∃ i, i < k ∧ (none_b (mg M) (iA (mg M) M.length p i) = true ∨ dup_b (mg M) M.length p i = true) then 8 else 0)))) ∧ ∃ V', skK S S' V V') := by
  have b9 := blk_b hK.bl
  obtain ⟨b1, b2, b3, b4, b5, b6⟩ := bk_tx hK.bl ht
  rw [etx] at b3
  have bd := tx_bd b3
  have hTo := tx_out b3
  have hTi := tx_in b3
  intro w
  induction w with
  | zero =>
    intro i s x S1 V1 hi K1 hx hs hs1 hv
    have K := K1.pd hK
    have o1 := K1.2.1
    obtain ⟨g, A, gi, ⟨ey, kg⟩, ⟨hMN, hN16, hPB, hP6, hy6⟩, hg, hbl, X, hA⟩ := id K
    have r2 : S1.2.2 (P + 3) = some (kN 12 (A 2)) := X.2.1 2 (by decide)
    have r3 : S1.2.2 (P + 4) = some (kN 12 (A 3)) := X.2.1 3 (by decide)
    have r4 : S1.2.2 (P + 5) = some (kN 12 (A 4)) := X.2.1 4 (by decide)
    have r5 : S1.2.2 (P + 6) = some (kN 12 (A 5)) := X.2.1 5 (by decide)
    have aA := hA t ht
    rw [etx] at aA
    have a2 : A 2 t = k := aA.2.1.1
    have a3 : A 3 t = m := aA.2.1.2
    have a4 : A 4 t = p := aA.2.2.1.1
    have a5 : A 5 t = u := aA.2.2.1.2
    refine ks_iload dX16_alone_81 rfl rfl ?_
    refine ks_aload_n dX16_alone_83 rfl rfl ?_
    refine ks_getN (T := TX13) (kf := 5) kx_1822 rfl in_X13 cl_X13 (by decide) X.1 rfl dX16_alone_84 rfl ?_
    refine ks_iload_n dX16_alone_87 rfl rfl ?_
    refine ks_ialdN (i := t) r3 rfl (by omega) (by decide) dX16_alone_88 rfl ?_
    rw [a3]
    refine ks_icmp_geN (tgt := 165) (by omega) (by omega) dX16_alone_89 (by decide) rfl (fun h2 => ?_) (fun h2 => absurd h2 (by omega))
    refine ks_iconst (x := nI 0) dX16_alone_165 (by decide) rfl ?_
    refine ks_istore dX16_alone_166 (by decide) rfl ?_
    refine ks_sub [(7, _), (0, _), (1, _), (2, _), (4, _), (6, _)] rfl ?_
    obtain rfl : i = m := hi
    have ef : fit_b (mg M) M.length u i = true := decide_eq_true ⟨hv, by rw [← hs]; exact hs1⟩
    rw [if_neg (by rw [ef]; decide)]
    exact ks_sub [(0, _), (1, _), (2, _), (7, _)] rfl (l_alIn (d := d) hO hK ht etx hk1 k 0 S1 V1 (by omega) K1 (fun _ h => absurd h (Nat.lt_irrefl _)) (fun _ j h => absurd h (Nat.not_lt_zero _)))
  | succ w ih =>
    intro i s x S1 V1 hi K1 hx hs hs1 hv
    have K := K1.pd hK
    have o1 := K1.2.1
    obtain ⟨g, A, gi, ⟨ey, kg⟩, ⟨hMN, hN16, hPB, hP6, hy6⟩, hg, hbl, X, hA⟩ := id K
    have r2 : S1.2.2 (P + 3) = some (kN 12 (A 2)) := X.2.1 2 (by decide)
    have r3 : S1.2.2 (P + 4) = some (kN 12 (A 3)) := X.2.1 3 (by decide)
    have r4 : S1.2.2 (P + 5) = some (kN 12 (A 4)) := X.2.1 4 (by decide)
    have r5 : S1.2.2 (P + 6) = some (kN 12 (A 5)) := X.2.1 5 (by decide)
    have aA := hA t ht
    rw [etx] at aA
    have a2 : A 2 t = k := aA.2.1.1
    have a3 : A 3 t = m := aA.2.1.2
    have a4 : A 4 t = p := aA.2.2.1.1
    have a5 : A 5 t = u := aA.2.2.1.2
    refine ks_iload dX16_alone_81 rfl rfl ?_
    refine ks_aload_n dX16_alone_83 rfl rfl ?_
    refine ks_getN (T := TX13) (kf := 5) kx_1822 rfl in_X13 cl_X13 (by decide) X.1 rfl dX16_alone_84 rfl ?_
    refine ks_iload_n dX16_alone_87 rfl rfl ?_
    refine ks_ialdN (i := t) r3 rfl (by omega) (by decide) dX16_alone_88 rfl ?_
    rw [a3]
    refine ks_icmp_geN (tgt := 165) (by omega) (by omega) dX16_alone_89 (by decide) rfl (fun h2 => absurd h2 (by omega)) (fun h2 => ?_)
    obtain ⟨o1', o2', o3', o4', o5'⟩ := hTo i (by omega)
    have exA : x = oA (mg M) M.length u i := Option.some.inj (hx.symm.trans o1')
    have hxL : x + 9 ≤ M.length := by omega
    have vl : ks_num (mg M) x 8 < 2 ^ 64 := ks_num_lt hK.kO 8 x
    have ev : val_ (mg M) M.length u i = ks_num (mg M) x 8 := by unfold val_; rw [exA]
    have him : i < (txP M t).2.2.1 := by rw [etx]; show i < m; omega
    have bad : 2100000000000000 < ks_num (mg M) x 8 ∨ 2100000000000000 < s + ks_num (mg M) x 8 → fit_b (mg M) M.length u m = false := fun h => decide_eq_false (fun hc => by
      rcases h with h | h
      · have := hc.1 i (by omega); omega
      · have h9 : sum_ (val_ (mg M) M.length u) (i + 1) ≤ sum_ (val_ (mg M) M.length u) m := sum_mn (by omega)
        have h8 : sum_ (val_ (mg M) M.length u) (i + 1) = sum_ (val_ (mg M) M.length u) i + val_ (mg M) M.length u i := rfl
        omega)
    refine ks_aload_n dX16_alone_92 rfl rfl ?_
    refine ks_aload_n dX16_alone_93 rfl rfl ?_
    refine ks_getN (T := TX13) (kf := 0) kx_1813 rfl in_X13 cl_X13 (by decide) X.1 rfl dX16_alone_94 rfl ?_
    refine ks_iload dX16_alone_97 rfl rfl ?_
    refine ks_bipush (x := nI 8) dX16_alone_99 (by decide) rfl ?_
    refine ks_callV (n := 3) (M' := mX16_number) (c_pd_num (d := d + 2) K (i := x) (k := 8) (by omega) (by decide)) o1 cl_X16 rfl kx_2020 kx_2022 kxp_68 kx_30 kx_2023 (by decide +kernel) rfl (by decide) (Nat.le_of_ble_eq_true rfl) rfl dX16_alone_101 rfl (fun z2 T2 y2 => ?_)
    obtain ⟨rfl, hT2⟩ := y2
    obtain rfl := hT2.symm
    obtain ⟨v, hv9⟩ : ∃ v, v = ks_num (mg M) x 8 := ⟨_, rfl⟩
    rw [← hv9] at vl ev bad ⊢
    by_cases hb : 2 ^ 63 ≤ v
    · refine ks_lstore dX16_alone_104 (by decide) rfl ?_
      refine ks_sub [(8, _), (0, _), (1, _), (2, _), (4, _), (6, _), (7, _)] rfl ?_
      refine ks_lload dX16_alone_106 rfl rfl ?_
      refine ks_lconst (x := lN 0) dX16_alone_108 (by decide) rfl ?_
      refine ks_lif_lt (tgt := 122) dX16_alone_109 rfl dX16_alone_110 (by decide) rfl (fun h3 => ?_) (fun h3 => ?_)
      · refine ks_bipush (x := nI 8) dX16_alone_122 (by decide) rfl ?_
        refine ks_iret rfl dX16_alone_124 ?_
        rw [if_pos (bad (Or.inl (by omega)))]
        exact ⟨rfl, V1, K1⟩
      · exact absurd (lN_neg hb vl) h3
    · refine ks_lstore dX16_alone_104 (by decide) rfl ?_
      refine ks_sub [(8, _), (0, _), (1, _), (2, _), (4, _), (6, _), (7, _)] rfl ?_
      refine ks_lload dX16_alone_106 rfl rfl ?_
      refine ks_lconst (x := lN 0) dX16_alone_108 (by decide) rfl ?_
      refine ks_lif_ltN (tgt := 122) (by omega) (by decide) dX16_alone_109 rfl dX16_alone_110 (by decide) rfl (fun h3 => absurd h3 (by omega)) (fun h3 => ?_)
      refine ks_lload dX16_alone_113 rfl rfl ?_
      refine ks_ldc2 dX16_alone_115 kx_2145 rfl ?_
      refine ks_tl (y := lN 2100000000000000) rfl ?_
      refine ks_lif_leN (tgt := 125) (by omega) (by decide) dX16_alone_118 rfl dX16_alone_119 (by decide) rfl (fun h4 => ?_) (fun h4 => ?_)
      · refine ks_lload dX16_alone_125 rfl rfl ?_
        refine ks_lload dX16_alone_127 rfl rfl ?_
        refine ks_laddN dX16_alone_129 rfl ?_
        refine ks_lstore dX16_alone_130 (by decide) rfl ?_
        refine ks_sub [(4, _), (0, _), (1, _), (2, _), (6, _), (7, _), (8, _)] rfl ?_
        refine ks_lload dX16_alone_132 rfl rfl ?_
        refine ks_ldc2 dX16_alone_134 kx_2145 rfl ?_
        refine ks_tl (y := lN 2100000000000000) rfl ?_
        refine ks_lif_leN (tgt := 144) (by omega) (by decide) dX16_alone_137 rfl dX16_alone_138 (by decide) rfl (fun h5 => ?_) (fun h5 => ?_)
        · refine ks_aload_n dX16_alone_144 rfl rfl ?_
          refine ks_aload_n dX16_alone_145 rfl rfl ?_
          refine ks_getN (T := TX13) (kf := 0) kx_1813 rfl in_X13 cl_X13 (by decide) X.1 rfl dX16_alone_146 rfl ?_
          refine ks_iload dX16_alone_149 rfl rfl ?_
          refine ks_bipush (x := nI 8) dX16_alone_151 (by decide) rfl ?_
          refine ks_addN dX16_alone_153 rfl ?_
          refine ks_ti (y := nI (oA (mg M) M.length (txP M t).2.2.2.1 i + 8)) (by rw [etx, ← exA]) ?_
          refine ks_callV (n := 2) (M' := mX16_script) (c_pd_scrO (d := d + 1) o1 K ht him) o1 cl_X16 rfl kx_2126 kx_2128 kxp_79 kx_30 kx_2129 (by decide +kernel) rfl (by decide) (Nat.le_of_ble_eq_true rfl) rfl dX16_alone_154 rfl (fun z3 T3 y3 => ?_)
          obtain ⟨rfl, V3, K3, -, -⟩ := y3
          rw [etx]
          refine ks_istore dX16_alone_157 (by decide) rfl ?_
          refine ks_sub [(6, _), (0, _), (1, _), (2, _), (4, _), (7, _), (8, _)] rfl ?_
          refine ks_incN (c := 1) (e := i + 1) dX16_alone_159 rfl (by decide) rfl (by decide) rfl ?_
          refine ks_sub [(7, _), (0, _), (1, _), (2, _), (4, _), (6, _), (8, _)] rfl ?_
          refine ks_goto (tgt := 81) dX16_alone_162 (by decide) ?_
          refine ks_sub [(0, _), (1, _), (2, _), (4, _), (6, _), (7, _)] rfl (ih (i + 1) (s + v) (oS (mg M) M.length u i + oZ (mg M) M.length u i) T3 V3 (by omega) (K1.trans K3) (ot_s o1' o2') (by show _ = sum_ _ i + _; rw [← hs, ev]) (by omega) (fun j hj => ?_))
          by_cases e : j = i
          · subst e; omega
          · exact hv j (by omega)
        · refine ks_bipush (x := nI 8) dX16_alone_141 (by decide) rfl ?_
          refine ks_iret rfl dX16_alone_143 ?_
          rw [if_pos (bad (Or.inr (by omega)))]
          exact ⟨rfl, V1, K1⟩
      · refine ks_bipush (x := nI 8) dX16_alone_122 (by decide) rfl ?_
        refine ks_iret rfl dX16_alone_124 ?_
        rw [if_pos (bad (Or.inl (by omega)))]
        exact ⟨rfl, V1, K1⟩
set_option maxRecDepth 100000 in
set_option maxHeartbeats 800000 in
theorem c_pd_alone {l : Launch} {G : ks_G} {d : Nat} {S : ks_S} {V : Nat → Value} {P y N : Nat} {M : List Nat} (hO : S.2.2 290 = some (rfE V)) (hK : pdK S P y N M) {t : Nat} (ht : t < mg M 80) : ks_P l G yX16_alone mX16_alone (d + 3) [.ref 290, .ref P, .int (nI t)] S (fun z S' => z = some (.int (nI (rfM M t))) ∧ ∃ V', skK S S' V V') := by
  obtain ⟨k, p, m, u, e, etx⟩ : ∃ k p m u e, txP M t = (k, p, m, u, e) := ⟨_, _, _, _, _, rfl⟩
  have b9 := blk_b hK.bl
  obtain ⟨b1, b2, b3, b4, b5, b6⟩ := bk_tx hK.bl ht
  rw [etx] at b3
  have bd := tx_bd b3
  have hTo := tx_out b3
  have hTi := tx_in b3
  obtain ⟨g, A, gi, ⟨ey, kg⟩, ⟨hMN, hN16, hPB, hP6, hy6⟩, hg, hbl, X, hA⟩ := id hK
  have r2 : S.2.2 (P + 3) = some (kN 12 (A 2)) := X.2.1 2 (by decide)
  have r3 : S.2.2 (P + 4) = some (kN 12 (A 3)) := X.2.1 3 (by decide)
  have r4 : S.2.2 (P + 5) = some (kN 12 (A 4)) := X.2.1 4 (by decide)
  have r5 : S.2.2 (P + 6) = some (kN 12 (A 5)) := X.2.1 5 (by decide)
  have aA := hA t ht
  rw [etx] at aA
  have a2 : A 2 t = k := aA.2.1.1
  have a3 : A 3 t = m := aA.2.1.2
  have a4 : A 4 t = p := aA.2.2.1.1
  have a5 : A 5 t = u := aA.2.2.1.2
  have eM : rfM M t = rf_ (mg M) M.length k p m u (decide (t = 0)) := by unfold rfM; rw [etx]
  rw [eM]
  have main : (decide (k = 1) && none_b (mg M) (iA (mg M) M.length p 0)) = decide (t = 0) → ks_X l G mX16_alone (d + 3) 46 [(0, .ref 290), (1, .ref P), (2, .int (nI t))] [] S (fun z S' => z = some (.int (nI (rf_ (mg M) M.length k p m u (decide (t = 0))))) ∧ ∃ V', skK S S' V V') := by
    intro hs
    have hk1 : t = 0 → k = 1 := fun t0 => by
      rw [decide_eq_true t0] at hs
      exact of_decide_eq_true (Bool.and_eq_true_iff.mp hs).1
    have er : rf_ (mg M) M.length k p m u (decide (t = 0)) = if k = 0 ∨ m = 0 ∨ fit_b (mg M) M.length u m = false then 8 else (if decide (t = 0) = true then (if iZ (mg M) M.length p 0 < 2 ∨ 100 < iZ (mg M) M.length p 0 then 8 else 0) else if ∃ i, i < k ∧ (none_b (mg M) (iA (mg M) M.length p i) = true ∨ dup_b (mg M) M.length p i = true) then 8 else 0) := by
      unfold rf_
      rw [if_neg (by rw [hs]; exact fun h => h rfl)]
    rw [er]
    refine ks_aload_n dX16_alone_46 rfl rfl ?_
    refine ks_getN (T := TX13) (kf := 4) kx_1820 rfl in_X13 cl_X13 (by decide) X.1 rfl dX16_alone_47 rfl ?_
    refine ks_iload_n dX16_alone_50 rfl rfl ?_
    refine ks_ialdN (i := t) r2 rfl (by omega) (by decide) dX16_alone_51 rfl ?_
    rw [a2]
    refine ks_if_eqN (tgt := 64) (by omega) dX16_alone_52 (by decide) rfl (fun h1 => ?_) (fun h1 => ?_)
    · refine ks_bipush (x := nI 8) dX16_alone_64 (by decide) rfl ?_
      refine ks_iret rfl dX16_alone_66 ?_
      rw [if_pos (Or.inl h1)]
      exact ⟨rfl, V, skK.rf hO⟩
    · refine ks_aload_n dX16_alone_55 rfl rfl ?_
      refine ks_getN (T := TX13) (kf := 5) kx_1822 rfl in_X13 cl_X13 (by decide) X.1 rfl dX16_alone_56 rfl ?_
      refine ks_iload_n dX16_alone_59 rfl rfl ?_
      refine ks_ialdN (i := t) r3 rfl (by omega) (by decide) dX16_alone_60 rfl ?_
      rw [a3]
      refine ks_if_neN (tgt := 67) (by omega) dX16_alone_61 (by decide) rfl (fun h2 => ?_) (fun h2 => ?_)
      · refine ks_lconst (x := lN 0) dX16_alone_67 (by decide) rfl ?_
        refine ks_lstore dX16_alone_68 (by decide) rfl ?_
        refine ks_sub [(4, _), (0, _), (1, _), (2, _)] rfl ?_
        refine ks_aload_n dX16_alone_70 rfl rfl ?_
        refine ks_getN (T := TX13) (kf := 7) kx_1826 rfl in_X13 cl_X13 (by decide) X.1 rfl dX16_alone_71 rfl ?_
        refine ks_iload_n dX16_alone_74 rfl rfl ?_
        refine ks_ialdN (i := t) r5 rfl (by omega) (by decide) dX16_alone_75 rfl ?_
        rw [a5]
        refine ks_istore dX16_alone_76 (by decide) rfl ?_
        refine ks_sub [(6, _), (0, _), (1, _), (2, _), (4, _)] rfl ?_
        refine ks_iconst (x := nI 0) dX16_alone_78 (by decide) rfl ?_
        refine ks_istore dX16_alone_79 (by decide) rfl ?_
        refine ks_sub [(7, _), (0, _), (1, _), (2, _), (4, _), (6, _)] rfl ?_
        have e9 : (if k = 0 ∨ m = 0 ∨ fit_b (mg M) M.length u m = false then 8 else (if decide (t = 0) = true then (if iZ (mg M) M.length p 0 < 2 ∨ 100 < iZ (mg M) M.length p 0 then 8 else 0) else if ∃ i, i < k ∧ (none_b (mg M) (iA (mg M) M.length p i) = true ∨ dup_b (mg M) M.length p i = true) then 8 else 0)) = if fit_b (mg M) M.length u m = false then 8 else (if decide (t = 0) = true then (if iZ (mg M) M.length p 0 < 2 ∨ 100 < iZ (mg M) M.length p 0 then 8 else 0) else if ∃ i, i < k ∧ (none_b (mg M) (iA (mg M) M.length p i) = true ∨ dup_b (mg M) M.length p i = true) then 8 else 0) := by
          by_cases hf : fit_b (mg M) M.length u m = false
          · rw [if_pos hf, if_pos (Or.inr (Or.inr hf))]
          · rw [if_neg hf, if_neg (by rintro (h | h | h); exact h1 h; exact h2 h; exact hf h)]
        rw [e9]
        exact ks_sub [(0, _), (1, _), (2, _), (4, _), (6, _), (7, _)] rfl (l_alOut (d := d) hO hK ht etx hk1 m 0 0 u S V (by omega) (skK.rf hO) rfl rfl (by decide) (fun j h => absurd h (Nat.not_lt_zero _)))
      · refine ks_bipush (x := nI 8) dX16_alone_64 (by decide) rfl ?_
        refine ks_iret rfl dX16_alone_66 ?_
        rw [if_pos (Or.inr (Or.inl h2))]
        exact ⟨rfl, V, skK.rf hO⟩
  have seven : (decide (k = 1) && none_b (mg M) (iA (mg M) M.length p 0)) ≠ decide (t = 0) → rf_ (mg M) M.length k p m u (decide (t = 0)) = 7 := fun h => by
    unfold rf_
    rw [if_pos h]
  refine ks_of (by decide) rfl rfl (Nat.le_of_ble_eq_true rfl) ?_
  show ks_X l G mX16_alone (d + 3) 0 [(0, .ref 290), (1, .ref P), (2, .int (nI t))] [] S _
  refine ks_aload_n dX16_alone_0 rfl rfl ?_
  refine ks_getN (T := TX13) (kf := 4) kx_1820 rfl in_X13 cl_X13 (by decide) X.1 rfl dX16_alone_1 rfl ?_
  refine ks_iload_n dX16_alone_4 rfl rfl ?_
  refine ks_ialdN (i := t) r2 rfl (by omega) (by decide) dX16_alone_5 rfl ?_
  rw [a2]
  refine ks_iconst (x := nI 1) dX16_alone_6 (by decide) rfl ?_
  refine ks_icmp_neN (tgt := 28) (by omega) (by decide) dX16_alone_7 (by decide) rfl (fun h1 => ?_) (fun h1 => ?_)
  · refine ks_iconst (x := nI 0) dX16_alone_28 (by decide) rfl ?_
    refine ks_istore_n dX16_alone_29 (by decide) rfl ?_
    refine ks_sub [(3, _), (0, _), (1, _), (2, _)] rfl ?_
    refine ks_iload_n dX16_alone_30 rfl rfl ?_
    refine ks_iload_n dX16_alone_31 rfl rfl ?_
    refine ks_if_neN (tgt := 39) (by omega) dX16_alone_32 (by decide) rfl (fun ht0 => ?_) (fun ht0 => ?_)
    · refine ks_iconst (x := nI 0) dX16_alone_39 (by decide) rfl ?_
      refine ks_icmp_eqN (tgt := 46) (by decide) (by decide) dX16_alone_40 (by decide) rfl (fun _ => ?_) (fun h => absurd h (by decide))
      exact ks_sub [(0, _), (1, _), (2, _)] rfl (main (by rw [decide_eq_false (p := k = 1) h1, Bool.false_and, decide_eq_false (p := t = 0) ht0]))
    · refine ks_iconst (x := nI 1) dX16_alone_35 (by decide) rfl ?_
      refine ks_goto (tgt := 40) dX16_alone_36 (by decide) ?_
      refine ks_icmp_eqN (tgt := 46) (by decide) (by decide) dX16_alone_40 (by decide) rfl (fun h => absurd h (by decide)) (fun _ => ?_)
      refine ks_bipush (x := nI 7) dX16_alone_43 (by decide) rfl ?_
      refine ks_iret rfl dX16_alone_45 ?_
      rw [seven (by rw [decide_eq_false (p := k = 1) h1, Bool.false_and, decide_eq_true (p := t = 0) ht0]; decide)]
      exact ⟨rfl, V, skK.rf hO⟩
  · refine ks_aload_n dX16_alone_10 rfl rfl ?_
    refine ks_aload_n dX16_alone_11 rfl rfl ?_
    refine ks_aload_n dX16_alone_12 rfl rfl ?_
    refine ks_getN (T := TX13) (kf := 6) kx_1824 rfl in_X13 cl_X13 (by decide) X.1 rfl dX16_alone_13 rfl ?_
    refine ks_iload_n dX16_alone_16 rfl rfl ?_
    refine ks_ialdN (i := t) r4 rfl (by omega) (by decide) dX16_alone_17 rfl ?_
    have hik : 0 < (txP M t).1 := by rw [etx]; show 0 < k; omega
    have eI : inA M t 0 = p := by unfold inA; rw [etx]; rfl
    have eI3 : none_b (mg M) (iA (mg M) M.length p 0) = none_b (mg M) p := rfl
    rw [a4, ← eI]
    refine ks_callV (n := 2) (M' := mX16_isNone) (c_pd_isNone (d := d + 1) hO hK ht hik) hO cl_X16 rfl kx_2832 kx_2834 kxp_138 kx_30 kx_2835 (by decide +kernel) rfl (by decide) (Nat.le_of_ble_eq_true rfl) rfl dX16_alone_18 rfl (fun z5 T5 y5 => ?_)
    obtain ⟨rfl, hT5⟩ := y5
    obtain rfl := hT5.symm
    rw [eI]
    refine ks_if_eqZ (tgt := 28) dX16_alone_21 (by decide) rfl (fun h5 => ?_) (fun h5 => ?_)
    · refine ks_iconst (x := nI 0) dX16_alone_28 (by decide) rfl ?_
      refine ks_istore_n dX16_alone_29 (by decide) rfl ?_
      refine ks_sub [(3, _), (0, _), (1, _), (2, _)] rfl ?_
      refine ks_iload_n dX16_alone_30 rfl rfl ?_
      refine ks_iload_n dX16_alone_31 rfl rfl ?_
      refine ks_if_neN (tgt := 39) (by omega) dX16_alone_32 (by decide) rfl (fun ht0 => ?_) (fun ht0 => ?_)
      · refine ks_iconst (x := nI 0) dX16_alone_39 (by decide) rfl ?_
        refine ks_icmp_eqN (tgt := 46) (by decide) (by decide) dX16_alone_40 (by decide) rfl (fun _ => ?_) (fun h => absurd h (by decide))
        exact ks_sub [(0, _), (1, _), (2, _)] rfl (main (by rw [decide_eq_true (p := k = 1) h1, Bool.true_and, eI3, h5, decide_eq_false (p := t = 0) ht0]))
      · refine ks_iconst (x := nI 1) dX16_alone_35 (by decide) rfl ?_
        refine ks_goto (tgt := 40) dX16_alone_36 (by decide) ?_
        refine ks_icmp_eqN (tgt := 46) (by decide) (by decide) dX16_alone_40 (by decide) rfl (fun h => absurd h (by decide)) (fun _ => ?_)
        refine ks_bipush (x := nI 7) dX16_alone_43 (by decide) rfl ?_
        refine ks_iret rfl dX16_alone_45 ?_
        rw [seven (by rw [decide_eq_true (p := k = 1) h1, Bool.true_and, eI3, h5, decide_eq_true (p := t = 0) ht0]; decide)]
        exact ⟨rfl, V, skK.rf hO⟩
    · refine ks_iconst (x := nI 1) dX16_alone_24 (by decide) rfl ?_
      refine ks_goto (tgt := 29) dX16_alone_25 (by decide) ?_
      refine ks_istore_n dX16_alone_29 (by decide) rfl ?_
      refine ks_sub [(3, _), (0, _), (1, _), (2, _)] rfl ?_
      refine ks_iload_n dX16_alone_30 rfl rfl ?_
      refine ks_iload_n dX16_alone_31 rfl rfl ?_
      refine ks_if_neN (tgt := 39) (by omega) dX16_alone_32 (by decide) rfl (fun ht0 => ?_) (fun ht0 => ?_)
      · refine ks_iconst (x := nI 0) dX16_alone_39 (by decide) rfl ?_
        refine ks_icmp_eqN (tgt := 46) (by decide) (by decide) dX16_alone_40 (by decide) rfl (fun h => absurd h (by decide)) (fun _ => ?_)
        refine ks_bipush (x := nI 7) dX16_alone_43 (by decide) rfl ?_
        refine ks_iret rfl dX16_alone_45 ?_
        rw [seven (by rw [decide_eq_true (p := k = 1) h1, Bool.true_and, eI3, h5, decide_eq_false (p := t = 0) ht0]; decide)]
        exact ⟨rfl, V, skK.rf hO⟩
      · refine ks_iconst (x := nI 1) dX16_alone_35 (by decide) rfl ?_
        refine ks_goto (tgt := 40) dX16_alone_36 (by decide) ?_
        refine ks_icmp_eqN (tgt := 46) (by decide) (by decide) dX16_alone_40 (by decide) rfl (fun _ => ?_) (fun h => absurd h (by decide))
        exact ks_sub [(0, _), (1, _), (2, _)] rfl (main (by rw [decide_eq_true (p := k = 1) h1, Bool.true_and, eI3, h5, decide_eq_true (p := t = 0) ht0]))
