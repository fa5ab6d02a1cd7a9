/-! THE REFERENCE: parse, a transaction -/
theorem ip_ge {g : Nat → Nat} {L p : Nat} : ∀ {j a : Nat}, ip g L p j = some a → p ≤ a
  | 0, a, h => by cases h; exact Nat.le_refl _
  | j + 1, a, h => by
    cases e : ip g L p j with
    | none => simp only [ip, e] at h; cases h
    | some b =>
      cases r : rc g (b + 36) L L with
      | none => simp only [ip, e, r] at h; cases h
      | some q =>
        have h1 := ip_ge e
        have h2 := rc_some (n := q.1) (q := q.2) r
        rw [ip_s e (n := q.1) (s := q.2) r] at h
        cases h
        omega
set_option maxRecDepth 100000 in
set_option maxHeartbeats 1600000 in
theorem l_pOne {l : Launch} {G : ks_G} {d : Nat} {S : ks_S} {V : Nat → Value} {Q : Option Value → ks_S → Prop} {y N n P t c p : Nat} {g gi g5 : Nat → Nat} {A : Nat → Nat → Nat} (kg : kO g) (hnN : n ≤ N) (hN : N < 2 ^ 16) (hP6 : 306 ≤ P) (hPB : P + 9 < ks_B) (hy : S.2.2 y = some (kB N g)) (hy9 : 306 ≤ y ∧ (y < P ∨ P + 7 < y)) (ht : t < c) (hc12 : c ≤ 12) (O : psO S V y n p false) (X : prX S P y c A gi) (hM : mhR S) (h305 : S.2.2 305 = some (kB 32 g5)) (k5 : kO g5) (hc : ∀ S' V' k q m u e A' gi', ks_up S S' (LPr P) → psO S' V' y n e false → (∀ k, k ≠ 36 → k ≠ 39 → V' k = V k) → mhR S' → (∃ g5, kO g5 ∧ S'.2.2 305 = some (kB 32 g5)) → tx_ g p n = some (k, q, m, u, e) → prX S' P y c A' gi' → A' 0 = va_up (A 0) t p → A' 1 = va_up (A 1) t e → A' 2 = va_up (A 2) t k → A' 3 = va_up (A 3) t m → A' 4 = va_up (A 4) t q → A' 5 = va_up (A 5) t u → gi' = ks_pt (twice_ (fun k => g (p + k)) (e - p)) gi (32 * t) 32 → ks_X l G mX16_parse (d + 4) 84 [(0, .ref 290), (1, .ref y), (2, .int (nI n)), (3, .ref P), (6, .int (nI (t + 1)))] [] S' Q) (hf : ∀ S', prF S S' V P y c → tx_ g p n = none → Q (some (.int (nI 0))) S') : ks_X l G mX16_parse (d + 4) 84 [(0, .ref 290), (1, .ref y), (2, .int (nI n)), (3, .ref P), (6, .int (nI t))] [] S Q := by
  have pn := O.2.2.2.2.2
  have r0 : S.2.2 (P + 1) = some (kN 12 (A 0)) := X.2.1 0 (by decide)
  have P0 := X.1
  refine ks_iload dX16_parse_84 rfl rfl ?_
  refine ks_aload_n dX16_parse_86 rfl rfl ?_
  refine ks_getN (T := TX13) (kf := 1) kx_1814 rfl in_X13 cl_X13 (by decide) P0 rfl dX16_parse_87 rfl ?_
  refine ks_icmp_geN (tgt := 405) (by omega) (by omega) dX16_parse_90 (by decide) rfl (fun h1 => absurd h1 (by omega)) (fun h1 => ?_)
  refine ks_aload_n dX16_parse_93 rfl rfl ?_
  refine ks_getN (T := TX13) (kf := 2) kx_1816 rfl in_X13 cl_X13 (by decide) P0 rfl dX16_parse_94 rfl ?_
  refine ks_iload dX16_parse_97 rfl rfl ?_
  refine ks_aload_n dX16_parse_99 rfl rfl ?_
  refine ks_getf (T := TX16) (kf := 36) kx_2404 rfl in_X16 cl_X16 (by decide) O.1 rfl dX16_parse_100 rfl ?_
  refine ks_tv O.2.1 ?_
  refine ks_iastNN (i := t) (v := p) (by omega) r0 (by omega) (by decide) dX16_parse_103 rfl ?_
  have X0 := X.row (r := 0) (f := va_up (A 0) t p) (by decide)
  have O0 := O.set (a := P + 1) (e := kN 12 (va_up (A 0) t p)) (by omega)
  have M0 := hM.set (a := P + 1) (e := kN 12 (va_up (A 0) t p)) (by omega)
  generalize eT : ks_set S (P + 1) (kN 12 (va_up (A 0) t p)) = T0
  have eT' : ks_set S (P + 1 + 0) (kN 12 (va_up (A 0) t p)) = T0 := eT
  rw [eT'] at X0
  rw [eT] at O0 M0
  have u0 : ks_up S T0 [P + 1] := by rw [← eT]; exact ks_up_set _ _ (by simp)
  have i0 := u0.at h305 (by rw [List.mem_singleton]; omega)
  have y0 := u0.at hy (by rw [List.mem_singleton]; omega)
  have U0 : ks_up S T0 (LPr P) := u0.mono (fun x hx => LPr_in (by rw [List.mem_singleton] at hx; omega))
  have q1 : ∀ x ∈ ([290] : List Nat), x < P ∨ P + 7 < x := fun x hx => by rw [List.mem_singleton] at hx; omega
  refine ks_aload_n dX16_parse_104 rfl rfl ?_
  refine ks_ldc2 dX16_parse_105 kx_2108 rfl ?_
  refine ks_tl (y := lN 4) rfl ?_
  by_cases h4 : p + 4 ≤ n
  · refine ks_callV (n := 1) (M' := mX16_skip) (c_ps_skipN (d := d + 3) (m := 4) O0 (by omega) h4) O0.1 cl_X16 rfl kx_2094 kx_2096 kxp_73 kx_30 kx_2097 (by decide +kernel) rfl (by decide) (Nat.le_of_ble_eq_true rfl) rfl dX16_parse_108 rfl (fun z1 T1 y1 => ?_)
    obtain ⟨rfl, V1, K1, O1⟩ := y1
    have y1' := K1.1.at y0 (by rw [List.mem_singleton]; omega)
    refine ks_aload_n dX16_parse_111 rfl rfl ?_
    refine ks_getf (T := TX16) (kf := 39) kx_2407 rfl in_X16 cl_X16 (by decide) O1.1 rfl dX16_parse_112 rfl ?_
    refine ks_tv O1.2.2.2.2.1 ?_
    refine ks_if_eqZ (tgt := 122) dX16_parse_115 (by decide) rfl (fun _ => ?_) (fun h => absurd h (by decide))
    refine ks_aload_n dX16_parse_122 rfl rfl ?_
    refine ks_callV (n := 0) (M' := mX16_count) (c_ps_count (d := d + 2) O1 y1' kg hnN hN) O1.1 cl_X16 rfl kx_2098 kx_2100 kxp_74 kx_30 kx_2101 (by decide +kernel) rfl (by decide) (Nat.le_of_ble_eq_true rfl) rfl dX16_parse_123 rfl (fun z2 T2 y2 => ?_)
    obtain ⟨V2, q, K2, y2⟩ := y2
    have K02 := K1.trans K2
    have pF : ∀ {r br}, psO T2 V2 y n r br → prF S T2 V P y c := fun O2 => prF.of hP6 U0 (fun _ _ _ => rfl) M0 i0 k5 X0 K02 O2
    have nt : rc g (p + 4) n 40 = none → tx_ g p n = none := fun e0 => by simp only [tx_, e0]
    rcases y2 with ⟨v, v1, v2, rfl, O2, v3⟩ | ⟨x, x1, rfl, O2, x2⟩ | ⟨x, rfl, O2, x2⟩
    · refine ks_lstore dX16_parse_126 (by decide) rfl ?_
      refine ks_sub [(7, _), (0, _), (1, _), (2, _), (3, _), (6, _)] rfl ?_
      refine ks_aload_n dX16_parse_128 rfl rfl ?_
      refine ks_getf (T := TX16) (kf := 39) kx_2407 rfl in_X16 cl_X16 (by decide) O2.1 rfl dX16_parse_129 rfl ?_
      refine ks_tv O2.2.2.2.2.1 ?_
      refine ks_if_neZ (tgt := 151) dX16_parse_132 (by decide) rfl (fun h => absurd h (by decide)) (fun _ => ?_)
      have hr := v3 40 (by decide)
      refine ks_lload dX16_parse_135 rfl rfl ?_
      refine ks_lconst (x := lN 0) dX16_parse_137 (by decide) rfl ?_
      refine ks_lif_ltN (tgt := 151) (by omega) (by decide) dX16_parse_138 rfl dX16_parse_139 (by decide) rfl (fun h2 => absurd h2 (by omega)) (fun h2 => ?_)
      refine ks_lload dX16_parse_142 rfl rfl ?_
      refine ks_ldc2 dX16_parse_144 kx_2109 rfl ?_
      refine ks_tl (y := lN 40) rfl ?_
      refine ks_lif_leN (tgt := 153) (by omega) (by decide) dX16_parse_147 rfl dX16_parse_148 (by decide) rfl (fun h3 => ?_) (fun h3 => ?_)
      · rw [if_pos (by omega)] at hr
        have qn := O2.2.2.2.2.2
        have X1 := X0.up K02.1 q1
        have M1 := M0.up K02.1 (by decide)
        have i1 := K02.1.at i0 (by decide)
        have y1 := K02.1.at y0 (by rw [List.mem_singleton]; omega)
        have r2 : T2.2.2 (P + 3) = some (kN 12 (A 2)) := X1.2.1 2 (by decide)
        have r4 : T2.2.2 (P + 5) = some (kN 12 (A 4)) := X1.2.1 4 (by decide)
        have P1 := X1.1
        refine ks_aload_n dX16_parse_153 rfl rfl ?_
        refine ks_getN (T := TX13) (kf := 4) kx_1820 rfl in_X13 cl_X13 (by decide) P1 rfl dX16_parse_154 rfl ?_
        refine ks_iload dX16_parse_157 rfl rfl ?_
        refine ks_lload dX16_parse_159 rfl rfl ?_
        refine ks_l2iN dX16_parse_161 rfl ?_
        refine ks_iastNN (i := t) (v := v) (by omega) r2 (by omega) (by decide) dX16_parse_162 rfl ?_
        refine ks_aload_n dX16_parse_163 rfl rfl ?_
        refine ks_getN (T := TX13) (kf := 6) kx_1824 rfl in_X13 cl_X13 (by decide) ((ks_set_ne _ _ (by omega)).trans P1) rfl dX16_parse_164 rfl ?_
        refine ks_iload dX16_parse_167 rfl rfl ?_
        refine ks_aload_n dX16_parse_169 rfl rfl ?_
        refine ks_getf (T := TX16) (kf := 36) kx_2404 rfl in_X16 cl_X16 (by decide) ((ks_set_ne _ _ (by omega)).trans O2.1) rfl dX16_parse_170 rfl ?_
        refine ks_tv O2.2.1 ?_
        refine ks_iastNN (i := t) (v := q) (by omega) ((ks_set_ne _ _ (by omega)).trans r4) (by omega) (by decide) dX16_parse_173 rfl ?_
        refine ks_iconst (x := nI 0) dX16_parse_174 (by decide) rfl ?_
        refine ks_istore dX16_parse_175 (by decide) rfl ?_
        refine ks_sub [(9, _), (0, _), (1, _), (2, _), (3, _), (6, _), (7, _)] rfl ?_
        have X3 := (X1.row (r := 2) (f := va_up (A 2) t v) (by decide)).row (r := 4) (f := va_up (A 4) t q) (by decide)
        have O3 := (O2.set (a := P + 3) (e := kN 12 (va_up (A 2) t v)) (by omega)).set (a := P + 5) (e := kN 12 (va_up (A 4) t q)) (by omega)
        have M3 := (M1.set (a := P + 3) (e := kN 12 (va_up (A 2) t v)) (by omega)).set (a := P + 5) (e := kN 12 (va_up (A 4) t q)) (by omega)
        generalize eT3 : ks_set (ks_set T2 (P + 3) (kN 12 (va_up (A 2) t v))) (P + 5) (kN 12 (va_up (A 4) t q)) = T3
        have eT3' : ks_set (ks_set T2 (P + 1 + 2) (kN 12 (va_up (A 2) t v))) (P + 1 + 4) (kN 12 (va_up (A 4) t q)) = T3 := eT3
        rw [eT3'] at X3
        rw [eT3] at O3 M3
        have u3 : ks_up T2 T3 [P + 3, P + 5] := by
          rw [← eT3]
          exact (ks_up_set _ _ (by simp)).trans (ks_up_set _ _ (by simp))
        have i3 := u3.at i1 (by simp only [List.mem_cons, List.not_mem_nil, or_false]; omega)
        have y3 := u3.at y1 (by simp only [List.mem_cons, List.not_mem_nil, or_false]; omega)
        have U3 : ks_up S T3 (LPr P) := (U0.trans (K02.1.mono (fun x hx => LPr_in (by rw [List.mem_singleton] at hx; omega)))).trans (u3.mono (fun x hx => LPr_in (by simp only [List.mem_cons, List.not_mem_nil, or_false] at hx; omega)))
        refine ks_sub [(0, _), (1, _), (2, _), (3, _), (6, _), (7, _), (9, _)] rfl (l_pIn (d := d + 2) (S0 := T3) (V0 := V2) kg hnN hN (by omega) y3 (by omega) ?_ ?_ v 0 T3 V2 q (Nat.zero_add _) (psK.rf _ _) O3 rfl)
        · intro S' V' p' K' O' hp'
          have X4 := X3.up K'.1 q1
          have qp : q ≤ p' := ip_ge hp'
          have i4 := K'.1.at i3 (by decide)
          have M4 := M3.up K'.1 (by decide)
          have U4 := U3.trans (K'.1.mono (fun x hx => LPr_in (by rw [List.mem_singleton] at hx; omega)))
          have hV4 : ∀ k, k ≠ 36 → k ≠ 39 → V' k = V k := fun k h1 h2 => (K'.2 k h1 h2).trans (K02.2 k h1 h2)
          have a0 : va_up (A 0) t p t = p := va_up_self _ _ _
          refine l_pMid kg hnN hN hP6 hPB (K'.1.at y3 (by rw [List.mem_singleton]; omega)) hy9 (by omega) O' X4 M4 i4 k5 (show va_up (A 0) t p t ≤ p' by rw [a0]; omega) ?_ ?_
          · intro S5 V5 m u e b1 b2 b3 b4 b5 b6 b7 b8 b9
            refine hc S5 V5 v q m u (e + 4) _ _ (U4.trans b1) b2 (fun k h1 h2 => (b3 k h1 h2).trans (hV4 k h1 h2)) b4 b5 ?_ b9 rfl rfl rfl rfl rfl rfl ?_
            · simp only [tx_, hr, hp', b6, b7, if_pos b8]
            · show ks_pt (twice_ (fun k => g (va_up (A 0) t p t + k)) (e + 4 - va_up (A 0) t p t)) gi (32 * t) 32 = _
              rw [a0]
          · intro S5 b1 b2
            refine hf S5 ⟨U4.trans b1.1, ?_, b1.2.2⟩ ?_
            · obtain ⟨V5, c1, c2⟩ := b1.2.1
              exact ⟨V5, c1, fun k h1 h2 => (c2 k h1 h2).trans (hV4 k h1 h2)⟩
            · rcases b2 with h | ⟨m, u, h, h5 | ⟨e, h5, h6⟩⟩
              · simp only [tx_, hr, hp', h]
              · simp only [tx_, hr, hp', h, h5]
              · simp only [tx_, hr, hp', h, h5, if_neg (Nat.not_le.mpr h6)]
        · intro S' V' p' K' O' hz
          refine hf S' (prF.of hP6 U3 K02.2 M3 i3 k5 X3 K' O') ?_
          rcases hz with h | ⟨b, h, hb⟩
          · simp only [tx_, hr, h]
          · have e0 : rc g b n 180 = none := by unfold rc; rw [if_pos (by omega)]
            simp only [tx_, hr, h, e0]
      · refine ks_iconst (x := nI 0) dX16_parse_151 (by decide) rfl ?_
        refine ks_zret rfl rfl dX16_parse_152 ?_
        rw [if_neg (by omega)] at hr
        exact hf T2 (pF O2) (nt hr)
    · refine ks_lstore dX16_parse_126 (by decide) rfl ?_
      refine ks_sub [(7, _), (0, _), (1, _), (2, _), (3, _), (6, _)] rfl ?_
      refine ks_aload_n dX16_parse_128 rfl rfl ?_
      refine ks_getf (T := TX16) (kf := 39) kx_2407 rfl in_X16 cl_X16 (by decide) O2.1 rfl dX16_parse_129 rfl ?_
      refine ks_tv O2.2.2.2.2.1 ?_
      refine ks_if_neZ (tgt := 151) dX16_parse_132 (by decide) rfl (fun h => absurd h (by decide)) (fun _ => ?_)
      refine ks_lload dX16_parse_135 rfl rfl ?_
      refine ks_lconst (x := lN 0) dX16_parse_137 (by decide) rfl ?_
      refine ks_lif_lt (tgt := 151) dX16_parse_138 rfl dX16_parse_139 (by decide) rfl (fun h2 => ?_) (fun h2 => ?_)
      · refine ks_iconst (x := nI 0) dX16_parse_151 (by decide) rfl ?_
        refine ks_zret rfl rfl dX16_parse_152 ?_
        exact hf T2 (pF O2) (nt (x2 40 (by decide)))
      · refine ks_lload dX16_parse_142 rfl rfl ?_
        refine ks_ldc2 dX16_parse_144 kx_2109 rfl ?_
        refine ks_tl (y := lN 40) rfl ?_
        refine ks_lif_le (tgt := 153) dX16_parse_147 rfl dX16_parse_148 (by decide) rfl (fun h3 => ?_) (fun h3 => ?_)
        · exact absurd (Int64.lt_of_lt_of_le (x1.resolve_left h2) h3) (by decide)
        · refine ks_iconst (x := nI 0) dX16_parse_151 (by decide) rfl ?_
          refine ks_zret rfl rfl dX16_parse_152 ?_
          exact hf T2 (pF O2) (nt (x2 40 (by decide)))
    · refine ks_lstore dX16_parse_126 (by decide) rfl ?_
      refine ks_sub [(7, _), (0, _), (1, _), (2, _), (3, _), (6, _)] rfl ?_
      refine ks_aload_n dX16_parse_128 rfl rfl ?_
      refine ks_getf (T := TX16) (kf := 39) kx_2407 rfl in_X16 cl_X16 (by decide) O2.1 rfl dX16_parse_129 rfl ?_
      refine ks_tv O2.2.2.2.2.1 ?_
      refine ks_if_neZ (tgt := 151) dX16_parse_132 (by decide) rfl (fun _ => ?_) (fun h => absurd h (by decide))
      refine ks_iconst (x := nI 0) dX16_parse_151 (by decide) rfl ?_
      refine ks_zret rfl rfl dX16_parse_152 ?_
      exact hf T2 (pF O2) (nt (x2 40 (by decide)))
  · refine ks_callV (n := 1) (M' := mX16_skip) (c_ps_skipX (d := d + 3) (x := lN 4) O0 (by omega) (Or.inr ((pk_lLT (by omega) (by decide)).mpr (by omega)))) O0.1 cl_X16 rfl kx_2094 kx_2096 kxp_73 kx_30 kx_2097 (by decide +kernel) rfl (by decide) (Nat.le_of_ble_eq_true rfl) rfl dX16_parse_108 rfl (fun z1 T1 y1 => ?_)
    obtain ⟨rfl, V1, K1, O1⟩ := y1
    refine ks_aload_n dX16_parse_111 rfl rfl ?_
    refine ks_getf (T := TX16) (kf := 39) kx_2407 rfl in_X16 cl_X16 (by decide) O1.1 rfl dX16_parse_112 rfl ?_
    refine ks_tv O1.2.2.2.2.1 ?_
    refine ks_if_eqZ (tgt := 122) dX16_parse_115 (by decide) rfl (fun h => absurd h (by decide)) (fun _ => ?_)
    refine ks_lconst (x := lN 0) dX16_parse_118 (by decide) rfl ?_
    refine ks_goto (tgt := 126) dX16_parse_119 (by decide) ?_
    refine ks_lstore dX16_parse_126 (by decide) rfl ?_
    refine ks_sub [(7, _), (0, _), (1, _), (2, _), (3, _), (6, _)] rfl ?_
    refine ks_aload_n dX16_parse_128 rfl rfl ?_
    refine ks_getf (T := TX16) (kf := 39) kx_2407 rfl in_X16 cl_X16 (by decide) O1.1 rfl dX16_parse_129 rfl ?_
    refine ks_tv O1.2.2.2.2.1 ?_
    refine ks_if_neZ (tgt := 151) dX16_parse_132 (by decide) rfl (fun _ => ?_) (fun h => absurd h (by decide))
    refine ks_iconst (x := nI 0) dX16_parse_151 (by decide) rfl ?_
    refine ks_zret rfl rfl dX16_parse_152 ?_
    refine hf T1 (prF.of hP6 U0 (fun _ _ _ => rfl) M0 i0 k5 X0 K1 O1) ?_
    have e0 : rc g (p + 4) n 40 = none := by unfold rc; rw [if_pos (by omega)]
    simp only [tx_, e0]
