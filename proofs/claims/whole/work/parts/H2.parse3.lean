/-! THE REFERENCE: parse, the middle of a transaction -/
/-- what a broken reading leaves -/
def prF (S S' : ks_S) (V : Nat → Value) (P y c : Nat) : Prop := ks_up S S' (LPr P) ∧ (∃ V', S'.2.2 290 = some (rfE V') ∧ ∀ k, k ≠ 36 → k ≠ 39 → V' k = V k) ∧ mhR S' ∧ (∃ g5, kO g5 ∧ S'.2.2 305 = some (kB 32 g5)) ∧ ∃ A gi, prX S' P y c A gi
theorem LPr_in {P x : Nat} (h : x = 290 ∨ (P ≤ x ∧ x ≤ P + 7)) : x ∈ LPr P := by
  unfold LPr
  simp only [List.mem_cons, List.not_mem_nil, or_false]
  omega
theorem prF.of {S S1 S2 : ks_S} {V V1 V2 : Nat → Value} {P y c n p : Nat} {br : Bool} {A : Nat → Nat → Nat} {gi g5 : Nat → Nat} (hP6 : 306 ≤ P) (hu : ks_up S S1 (LPr P)) (hv : ∀ k, k ≠ 36 → k ≠ 39 → V1 k = V k) (hM : mhR S1) (h305 : S1.2.2 305 = some (kB 32 g5)) (k5 : kO g5) (X : prX S1 P y c A gi) (K : psK S1 S2 V1 V2) (O : psO S2 V2 y n p br) : prF S S2 V P y c := by
  refine ⟨hu.trans (K.1.mono (fun x hx => LPr_in (by rw [List.mem_singleton] at hx; omega))), ⟨V2, O.1, fun k h1 h2 => (K.2 k h1 h2).trans (hv k h1 h2)⟩, hM.up K.1 (by decide), ⟨g5, k5, K.1.at h305 (by decide)⟩, A, gi, X.up K.1 (fun x hx => by rw [List.mem_singleton] at hx; omega)⟩
theorem ot_ge {g : Nat → Nat} {L p : Nat} : ∀ {j a : Nat}, ot g L p j = some a → p ≤ a
  | 0, a, h => by cases h; exact Nat.le_refl _
  | j + 1, a, h => by
    cases e : ot g L p j with
    | none => simp only [ot, e] at h; cases h
    | some b =>
      cases r : rc g (b + 8) L L with
      | none => simp only [ot, e, r] at h; cases h
      | some q =>
        have h1 := ot_ge e
        have h2 := rc_some (n := q.1) (q := q.2) r
        rw [ot_s e (n := q.1) (s := q.2) r] at h
        cases h
        omega
set_option maxRecDepth 100000 in
set_option maxHeartbeats 1600000 in
theorem l_pMid {l : Launch} {G : ks_G} {d : Nat} {S : ks_S} {V : Nat → Value} {Q : Option Value → ks_S → Prop} {y N n P t c p : Nat} {g gi g5 : Nat → Nat} {A : Nat → Nat → Nat} (kg : kO g) (hnN : n ≤ N) (hN : N < 2 ^ 16) (hP6 : 306 ≤ P) (hPB : P + 9 < ks_B) (hy : S.2.2 y = some (kB N g)) (hy9 : 306 ≤ y ∧ (y < P ∨ P + 7 < y)) (ht : t < 12) (O : psO S V y n p false) (X : prX S P y c A gi) (hM : mhR S) (h305 : S.2.2 305 = some (kB 32 g5)) (k5 : kO g5) (hst : A 0 t ≤ p) (hc : ∀ S' V' m u e, ks_up S S' (LPr P) → psO S' V' y n (e + 4) false → (∀ k, k ≠ 36 → k ≠ 39 → V' k = V k) → mhR S' → (∃ g5, kO g5 ∧ S'.2.2 305 = some (kB 32 g5)) → rc g p n 180 = some (m, u) → ot g n u m = some e → e + 4 ≤ n → prX S' P y c (fun q => if q = 1 then va_up (A 1) t (e + 4) else if q = 5 then va_up (A 5) t u else if q = 3 then va_up (A 3) t m else A q) (ks_pt (twice_ (fun k => g (A 0 t + k)) (e + 4 - A 0 t)) gi (32 * t) 32) → ks_X l G mX16_parse (d + 4) 84 [(0, .ref 290), (1, .ref y), (2, .int (nI n)), (3, .ref P), (6, .int (nI (t + 1)))] [] S' Q) (hf : ∀ S', prF S S' V P y c → (rc g p n 180 = none ∨ ∃ m u, rc g p n 180 = some (m, u) ∧ (ot g n u m = none ∨ ∃ e, ot g n u m = some e ∧ n < e + 4)) → Q (some (.int (nI 0))) S') : ks_X l G mX16_parse (d + 4) 234 [(0, .ref 290), (1, .ref y), (2, .int (nI n)), (3, .ref P), (6, .int (nI t))] [] S Q := by
  refine ks_aload_n dX16_parse_234 rfl rfl ?_
  refine ks_callV (n := 0) (M' := mX16_count) (c_ps_count (d := d + 2) O hy kg hnN hN) O.1 cl_X16 rfl kx_2098 kx_2100 kxp_74 kx_30 kx_2101 (by decide +kernel) rfl (by decide) (Nat.le_of_ble_eq_true rfl) rfl dX16_parse_235 rfl (fun z1 T1 y1 => ?_)
  obtain ⟨V1, u, K1, y1⟩ := y1
  have pF : ∀ {q br}, psO T1 V1 y n q br → prF S T1 V P y c := fun O1 => prF.of hP6 (ks_up.rf _ _) (fun _ _ _ => rfl) hM h305 k5 X K1 O1
  rcases y1 with ⟨v, v1, v2, rfl, O1, v3⟩ | ⟨x, x1, rfl, O1, x2⟩ | ⟨x, rfl, O1, x2⟩
  · refine ks_lstore dX16_parse_238 (by decide) rfl ?_
    refine ks_sub [(9, _), (0, _), (1, _), (2, _), (3, _), (6, _)] rfl ?_
    refine ks_aload_n dX16_parse_240 rfl rfl ?_
    refine ks_getf (T := TX16) (kf := 39) kx_2407 rfl in_X16 cl_X16 (by decide) O1.1 rfl dX16_parse_241 rfl ?_
    refine ks_tv O1.2.2.2.2.1 ?_
    refine ks_if_neZ (tgt := 263) dX16_parse_244 (by decide) rfl (fun h => absurd h (by decide)) (fun _ => ?_)
    have hr := v3 180 (by decide)
    refine ks_lload dX16_parse_247 rfl rfl ?_
    refine ks_lconst (x := lN 0) dX16_parse_249 (by decide) rfl ?_
    refine ks_lif_ltN (tgt := 263) (by omega) (by decide) dX16_parse_250 rfl dX16_parse_251 (by decide) rfl (fun h2 => absurd h2 (by omega)) (fun h2 => ?_)
    refine ks_lload dX16_parse_254 rfl rfl ?_
    refine ks_ldc2 dX16_parse_256 kx_2111 rfl ?_
    refine ks_tl (y := lN 180) rfl ?_
    refine ks_lif_leN (tgt := 265) (by omega) (by decide) dX16_parse_259 rfl dX16_parse_260 (by decide) rfl (fun h3 => ?_) (fun h3 => ?_)
    · rw [if_pos (by omega)] at hr
      have un := O1.2.2.2.2.2
      have q1 : ∀ x ∈ ([290] : List Nat), x < P ∨ P + 7 < x := fun x hx => by rw [List.mem_singleton] at hx; omega
      have X1 := X.up K1.1 q1
      have M1 := hM.up K1.1 (by decide)
      have i1 := K1.1.at h305 (by decide)
      have y1 := K1.1.at hy (by rw [List.mem_singleton]; omega)
      have r3 : T1.2.2 (P + 4) = some (kN 12 (A 3)) := X1.2.1 3 (by decide)
      have r5 : T1.2.2 (P + 6) = some (kN 12 (A 5)) := X1.2.1 5 (by decide)
      have P1 := X1.1
      refine ks_aload_n dX16_parse_265 rfl rfl ?_
      refine ks_getN (T := TX13) (kf := 5) kx_1822 rfl in_X13 cl_X13 (by decide) P1 rfl dX16_parse_266 rfl ?_
      refine ks_iload dX16_parse_269 rfl rfl ?_
      refine ks_lload dX16_parse_271 rfl rfl ?_
      refine ks_l2iN dX16_parse_273 rfl ?_
      refine ks_iastNN (i := t) (v := v) (by omega) r3 (by omega) (by decide) dX16_parse_274 rfl ?_
      refine ks_aload_n dX16_parse_275 rfl rfl ?_
      refine ks_getN (T := TX13) (kf := 7) kx_1826 rfl in_X13 cl_X13 (by decide) ((ks_set_ne _ _ (by omega)).trans P1) rfl dX16_parse_276 rfl ?_
      refine ks_iload dX16_parse_279 rfl rfl ?_
      refine ks_aload_n dX16_parse_281 rfl rfl ?_
      refine ks_getf (T := TX16) (kf := 36) kx_2404 rfl in_X16 cl_X16 (by decide) ((ks_set_ne _ _ (by omega)).trans O1.1) rfl dX16_parse_282 rfl ?_
      refine ks_tv O1.2.1 ?_
      refine ks_iastNN (i := t) (v := u) (by omega) ((ks_set_ne _ _ (by omega)).trans r5) (by omega) (by decide) dX16_parse_285 rfl ?_
      refine ks_iconst (x := nI 0) dX16_parse_286 (by decide) rfl ?_
      refine ks_istore dX16_parse_287 (by decide) rfl ?_
      refine ks_sub [(11, _), (0, _), (1, _), (2, _), (3, _), (6, _), (9, _)] rfl ?_
      have X2 := (X1.row (r := 3) (f := va_up (A 3) t v) (by decide)).row (r := 5) (f := va_up (A 5) t u) (by decide)
      have O2 := (O1.set (a := P + 4) (e := kN 12 (va_up (A 3) t v)) (by omega)).set (a := P + 6) (e := kN 12 (va_up (A 5) t u)) (by omega)
      have M2 := (M1.set (a := P + 4) (e := kN 12 (va_up (A 3) t v)) (by omega)).set (a := P + 6) (e := kN 12 (va_up (A 5) t u)) (by omega)
      generalize eT : ks_set (ks_set T1 (P + 4) (kN 12 (va_up (A 3) t v))) (P + 6) (kN 12 (va_up (A 5) t u)) = T2
      have eT' : ks_set (ks_set T1 (P + 1 + 3) (kN 12 (va_up (A 3) t v))) (P + 1 + 5) (kN 12 (va_up (A 5) t u)) = T2 := eT
      rw [eT'] at X2
      rw [eT] at O2 M2
      have u2 : ks_up T1 T2 [P + 4, P + 6] := by
        rw [← eT]
        exact (ks_up_set _ _ (by simp)).trans (ks_up_set _ _ (by simp))
      have i2 := u2.at i1 (by simp only [List.mem_cons, List.not_mem_nil, or_false]; omega)
      have y2 := u2.at y1 (by simp only [List.mem_cons, List.not_mem_nil, or_false]; omega)
      have U2 : ks_up S T2 (LPr P) := (K1.1.mono (fun x hx => LPr_in (by rw [List.mem_singleton] at hx; omega))).trans (u2.mono (fun x hx => LPr_in (by simp only [List.mem_cons, List.not_mem_nil, or_false] at hx; omega)))
      refine ks_sub [(0, _), (1, _), (2, _), (3, _), (6, _), (9, _), (11, _)] rfl (l_pOut (d := d + 2) (S0 := T2) (V0 := V1) kg hnN hN (by omega) y2 (by omega) ?_ ?_ v 0 T2 V1 u (Nat.zero_add _) (psK.rf _ _) O2 rfl)
      · intro S' V' e K' O' he
        have q2 : ∀ x ∈ ([290] : List Nat), x < P ∨ P + 7 < x := q1
        have X3 := X2.up K'.1 q2
        have uw : u ≤ e := ot_ge he
        refine l_pEnd kg hnN hN hP6 hPB (K'.1.at y2 (by rw [List.mem_singleton]; omega)) hy9 ht O' X3 (M2.up K'.1 (by decide)) (K'.1.at i2 (by decide)) k5 (show A 0 t ≤ e by omega) ?_ ?_
        · intro S4 V4 a1 a2 a3 a4 a5 a6 a7
          exact hc S4 V4 v u e ((U2.trans (K'.1.mono (fun x hx => LPr_in (by rw [List.mem_singleton] at hx; omega)))).trans a1) a2 (fun k h1 h2 => (a3 k h1 h2).trans ((K'.2 k h1 h2).trans (K1.2 k h1 h2))) a4 a5 hr he a6 a7
        · intro S4 V4 a1 a2 a3
          exact hf S4 (prF.of hP6 U2 K1.2 M2 i2 k5 X2 (K'.trans a1) a2) (Or.inr ⟨v, u, hr, Or.inr ⟨e, he, a3⟩⟩)
      · intro S' V' p' K' O' hz
        refine hf S' (prF.of hP6 U2 K1.2 M2 i2 k5 X2 K' O') (Or.inr ⟨v, u, hr, ?_⟩)
        rcases hz with h | ⟨b, h, hb⟩
        · exact Or.inl h
        · exact Or.inr ⟨b, h, by omega⟩
    · refine ks_iconst (x := nI 0) dX16_parse_263 (by decide) rfl ?_
      refine ks_zret rfl rfl dX16_parse_264 ?_
      rw [if_neg (by omega)] at hr
      exact hf T1 (pF O1) (Or.inl hr)
  · refine ks_lstore dX16_parse_238 (by decide) rfl ?_
    refine ks_sub [(9, _), (0, _), (1, _), (2, _), (3, _), (6, _)] rfl ?_
    refine ks_aload_n dX16_parse_240 rfl rfl ?_
    refine ks_getf (T := TX16) (kf := 39) kx_2407 rfl in_X16 cl_X16 (by decide) O1.1 rfl dX16_parse_241 rfl ?_
    refine ks_tv O1.2.2.2.2.1 ?_
    refine ks_if_neZ (tgt := 263) dX16_parse_244 (by decide) rfl (fun h => absurd h (by decide)) (fun _ => ?_)
    refine ks_lload dX16_parse_247 rfl rfl ?_
    refine ks_lconst (x := lN 0) dX16_parse_249 (by decide) rfl ?_
    refine ks_lif_lt (tgt := 263) dX16_parse_250 rfl dX16_parse_251 (by decide) rfl (fun h2 => ?_) (fun h2 => ?_)
    · refine ks_iconst (x := nI 0) dX16_parse_263 (by decide) rfl ?_
      refine ks_zret rfl rfl dX16_parse_264 ?_
      exact hf T1 (pF O1) (Or.inl (x2 180 (by decide)))
    · refine ks_lload dX16_parse_254 rfl rfl ?_
      refine ks_ldc2 dX16_parse_256 kx_2111 rfl ?_
      refine ks_tl (y := lN 180) rfl ?_
      refine ks_lif_le (tgt := 265) dX16_parse_259 rfl dX16_parse_260 (by decide) rfl (fun h3 => ?_) (fun h3 => ?_)
      · exact absurd (Int64.lt_of_lt_of_le (x1.resolve_left h2) h3) (by decide)
      · refine ks_iconst (x := nI 0) dX16_parse_263 (by decide) rfl ?_
        refine ks_zret rfl rfl dX16_parse_264 ?_
        exact hf T1 (pF O1) (Or.inl (x2 180 (by decide)))
  · refine ks_lstore dX16_parse_238 (by decide) rfl ?_
    refine ks_sub [(9, _), (0, _), (1, _), (2, _), (3, _), (6, _)] rfl ?_
    refine ks_aload_n dX16_parse_240 rfl rfl ?_
    refine ks_getf (T := TX16) (kf := 39) kx_2407 rfl in_X16 cl_X16 (by decide) O1.1 rfl dX16_parse_241 rfl ?_
    refine ks_tv O1.2.2.2.2.1 ?_
    refine ks_if_neZ (tgt := 263) dX16_parse_244 (by decide) rfl (fun _ => ?_) (fun h => absurd h (by decide))
    refine ks_iconst (x := nI 0) dX16_parse_263 (by decide) rfl ?_
    refine ks_zret rfl rfl dX16_parse_264 ?_
    exact hf T1 (pF O1) (Or.inl (x2 180 (by decide)))
