/-! THE REFERENCE: parse, the end of a transaction -/
abbrev prO (P y c : Nat) : ks_E := .inr (16, [.ref y, .int (nI c), .ref (P + 1), .ref (P + 2), .ref (P + 3), .ref (P + 4), .ref (P + 5), .ref (P + 6), .ref (P + 7)])
/-- a parsed block's rows: A 0 starts, A 1 ends, A 2 ins, A 3 outs, A 4 firstIn, A 5 firstOut -/
def prX (S : ks_S) (P y c : Nat) (A : Nat → Nat → Nat) (gi : Nat → Nat) : Prop := S.2.2 P = some (prO P y c) ∧ (∀ r, r < 6 → S.2.2 (P + 1 + r) = some (kN 12 (A r))) ∧ S.2.2 (P + 7) = some (kB 384 gi) ∧ kO gi
theorem prX.up {S S1 : ks_S} {P y c : Nat} {A : Nat → Nat → Nat} {gi : Nat → Nat} {L : List Nat} (h : prX S P y c A gi) (hu : ks_up S S1 L) (hL : ∀ x ∈ L, x < P ∨ P + 7 < x) : prX S1 P y c A gi := by
  have n : ∀ x, P ≤ x → x ≤ P + 7 → x ∉ L := fun x a b q => by have := hL x q; omega
  exact ⟨hu.at h.1 (n _ (by omega) (by omega)), fun r hr => hu.at (h.2.1 r hr) (n _ (by omega) (by omega)), hu.at h.2.2.1 (n _ (by omega) (by omega)), h.2.2.2⟩
/-- one row anew -/
theorem prX.row {S : ks_S} {P y c r : Nat} {A : Nat → Nat → Nat} {gi f : Nat → Nat} (h : prX S P y c A gi) (hr : r < 6) : prX (ks_set S (P + 1 + r) (kN 12 f)) P y c (fun q => if q = r then f else A q) gi := by
  refine ⟨(ks_set_ne _ _ (by omega)).trans h.1, fun q hq => ?_, (ks_set_ne _ _ (by omega)).trans h.2.2.1, h.2.2.2⟩
  by_cases e : q = r
  · subst e; show _ = some (kN 12 (if q = q then f else A q)); rw [if_pos rfl]; exact ks_set_same _ _ _
  · show _ = some (kN 12 (if q = r then f else A q)); rw [if_neg e]; exact (ks_set_ne _ _ (by omega)).trans (h.2.1 q hq)
def LPr (P : Nat) : List Nat := [290, 291, 292, 293, 299, 305, P, P + 1, P + 2, P + 3, P + 4, P + 5, P + 6, P + 7]
theorem psO.set {S : ks_S} {V : Nat → Value} {y n p a : Nat} {br : Bool} {e : ks_E} (h : psO S V y n p br) (ha : 290 ≠ a) : psO (ks_set S a e) V y n p br := ⟨(ks_set_ne _ _ ha).trans h.1, h.2⟩
theorem mhR.set {S : ks_S} {a : Nat} {e : ks_E} (h : mhR S) (ha : 305 < a) : mhR (ks_set S a e) := h.up (ks_up_set (L := [a]) _ _ (List.mem_singleton.mpr rfl)) (fun x hx => by rw [List.mem_singleton] at hx; omega)
set_option maxRecDepth 100000 in
set_option maxHeartbeats 1600000 in
theorem l_pEnd {l : Launch} {G : ks_G} {d : Nat} {S : ks_S} {V : Nat → Value} {Q : Option Value → ks_S → Prop} {y N n P t c p : Nat} {g gi g5 : Nat → Nat} {A : Nat → Nat → Nat} (kg : kO g) (hnN : n ≤ N) (hN : N < 2 ^ 16) (hP6 : 306 ≤ P) (hPB : P + 9 < ks_B) (hy : S.2.2 y = some (kB N g)) (hy9 : 306 ≤ y ∧ (y < P ∨ P + 7 < y)) (ht : t < 12) (O : psO S V y n p false) (X : prX S P y c A gi) (hM : mhR S) (h305 : S.2.2 305 = some (kB 32 g5)) (k5 : kO g5) (hst : A 0 t ≤ p) (hc : ∀ S' V', ks_up S S' (LPr P) → psO S' V' y n (p + 4) false → (∀ k, k ≠ 36 → k ≠ 39 → V' k = V k) → mhR S' → (∃ g5, kO g5 ∧ S'.2.2 305 = some (kB 32 g5)) → p + 4 ≤ n → prX S' P y c (fun q => if q = 1 then va_up (A 1) t (p + 4) else A q) (ks_pt (twice_ (fun k => g (A 0 t + k)) (p + 4 - A 0 t)) gi (32 * t) 32) → ks_X l G mX16_parse (d + 4) 84 [(0, .ref 290), (1, .ref y), (2, .int (nI n)), (3, .ref P), (6, .int (nI (t + 1)))] [] S' Q) (hf : ∀ S' V', psK S S' V V' → psO S' V' y n p true → n < p + 4 → Q (some (.int (nI 0))) S') : ks_X l G mX16_parse (d + 4) 339 [(0, .ref 290), (1, .ref y), (2, .int (nI n)), (3, .ref P), (6, .int (nI t))] [] S Q := by
  refine ks_aload_n dX16_parse_339 rfl rfl ?_
  refine ks_ldc2 dX16_parse_340 kx_2108 rfl ?_
  refine ks_tl (y := lN 4) rfl ?_
  have pn := O.2.2.2.2.2
  by_cases h4 : p + 4 ≤ n
  · refine ks_callV (n := 1) (M' := mX16_skip) (c_ps_skipN (d := d + 3) (m := 4) O (by omega) h4) O.1 cl_X16 rfl kx_2094 kx_2096 kxp_73 kx_30 kx_2097 (by decide +kernel) rfl (by decide) (Nat.le_of_ble_eq_true rfl) rfl dX16_parse_343 rfl (fun z1 T1 y1 => ?_)
    obtain ⟨rfl, V1, K1, O1⟩ := y1
    have q1 : ∀ x ∈ ([290] : List Nat), x < P ∨ P + 7 < x := fun x hx => by rw [List.mem_singleton] at hx; omega
    have X1 := X.up K1.1 q1
    have M1 := hM.up K1.1 (by decide)
    have i1 := K1.1.at h305 (by decide)
    have y1 := K1.1.at hy (by rw [List.mem_singleton]; omega)
    have r1 : T1.2.2 (P + 2) = some (kN 12 (A 1)) := X1.2.1 1 (by decide)
    have P1 := X1.1
    refine ks_aload_n dX16_parse_346 rfl rfl ?_
    refine ks_getf (T := TX16) (kf := 39) kx_2407 rfl in_X16 cl_X16 (by decide) O1.1 rfl dX16_parse_347 rfl ?_
    refine ks_tv O1.2.2.2.2.1 ?_
    refine ks_if_eqZ (tgt := 355) dX16_parse_350 (by decide) rfl (fun _ => ?_) (fun h => absurd h (by decide))
    refine ks_aload_n dX16_parse_355 rfl rfl ?_
    refine ks_getN (T := TX13) (kf := 3) kx_1818 rfl in_X13 cl_X13 (by decide) P1 rfl dX16_parse_356 rfl ?_
    refine ks_iload dX16_parse_359 rfl rfl ?_
    refine ks_aload_n dX16_parse_361 rfl rfl ?_
    refine ks_getf (T := TX16) (kf := 36) kx_2404 rfl in_X16 cl_X16 (by decide) O1.1 rfl dX16_parse_362 rfl ?_
    refine ks_tv O1.2.1 ?_
    refine ks_iastNN (i := t) (v := p + 4) (by omega) r1 (by omega) (by decide) dX16_parse_365 rfl ?_
    obtain ⟨T2, eT2⟩ : ∃ T, T = ks_set T1 (P + 2) (kN 12 (va_up (A 1) t (p + 4))) := ⟨_, rfl⟩
    have u2 : ks_up T1 T2 [P + 2] := by rw [eT2]; exact ks_up_set _ _ (List.mem_singleton.mpr rfl)
    have X2 : prX T2 P y c (fun q => if q = 1 then va_up (A 1) t (p + 4) else A q) gi := by rw [eT2]; exact X1.row (r := 1) (by decide)
    have O2 : psO T2 V1 y n (p + 4) false := by rw [eT2]; exact O1.set (by omega)
    have M2 : mhR T2 := by rw [eT2]; exact M1.set (by omega)
    have i2 := u2.at i1 (by rw [List.mem_singleton]; omega)
    have y2 := u2.at y1 (by rw [List.mem_singleton]; omega)
    have s2 : T2.2.2 (P + 1) = some (kN 12 (A 0)) := X2.2.1 0 (by decide)
    have d2 := X2.2.2.1
    have P2 := X2.1
    refine ks_tS eT2.symm ?_
    refine ks_aload_n dX16_parse_366 rfl rfl ?_
    refine ks_aload_n dX16_parse_367 rfl rfl ?_
    refine ks_aload_n dX16_parse_368 rfl rfl ?_
    refine ks_getN (T := TX13) (kf := 2) kx_1816 rfl in_X13 cl_X13 (by decide) P2 rfl dX16_parse_369 rfl ?_
    refine ks_iload dX16_parse_372 rfl rfl ?_
    refine ks_ialdN (i := t) s2 rfl (by omega) (by decide) dX16_parse_374 rfl ?_
    refine ks_aload_n dX16_parse_375 rfl rfl ?_
    refine ks_getf (T := TX16) (kf := 36) kx_2404 rfl in_X16 cl_X16 (by decide) O2.1 rfl dX16_parse_376 rfl ?_
    refine ks_tv O2.2.1 ?_
    refine ks_aload_n dX16_parse_379 rfl rfl ?_
    refine ks_getN (T := TX13) (kf := 2) kx_1816 rfl in_X13 cl_X13 (by decide) P2 rfl dX16_parse_380 rfl ?_
    refine ks_iload dX16_parse_383 rfl rfl ?_
    refine ks_ialdN (i := t) s2 rfl (by omega) (by decide) dX16_parse_385 rfl ?_
    refine ks_subN (by omega) dX16_parse_386 rfl ?_
    refine ks_aload_n dX16_parse_387 rfl rfl ?_
    refine ks_getN (T := TX13) (kf := 8) kx_1828 rfl in_X13 cl_X13 (by decide) P2 rfl dX16_parse_388 rfl ?_
    refine ks_bipush (x := nI 32) dX16_parse_391 (by decide) rfl ?_
    refine ks_iload dX16_parse_393 rfl rfl ?_
    refine ks_mulN dX16_parse_395 rfl ?_
    refine ks_callV (n := 5) (M' := mX16_again) (c_md_again (d := d) (i := A 0 t) (n := p + 4 - A 0 t) (oa := 32 * t) O2.1 M2 i2 k5 y2 kg (by omega) (by omega) d2 X2.2.2.2 (by omega) (by decide) (by omega) (by omega)) O2.1 cl_X16 rfl kx_1988 kx_1990 kxp_61 kx_30 kx_1991 (by decide +kernel) rfl (by decide) (Nat.le_of_ble_eq_true rfl) rfl dX16_parse_396 rfl (fun z3 T3 y3 => ?_)
    obtain ⟨rfl, u3, M3, i3, e3⟩ := y3
    have kk : kO (ks_pt (twice_ (fun k => g (A 0 t + k)) (p + 4 - A 0 t)) gi (32 * t) 32) := kO_pt (kO_twice _ _) X2.2.2.2 _ _
    have n3 : ∀ x, 306 ≤ x → x ≠ P + 7 → x ∉ [291, 292, 293, 299, 305, P + 7] := fun x h1 h2 h3 => by simp only [List.mem_cons, List.not_mem_nil, or_false] at h3; omega
    have X3 : prX T3 P y c (fun q => if q = 1 then va_up (A 1) t (p + 4) else A q) (ks_pt (twice_ (fun k => g (A 0 t + k)) (p + 4 - A 0 t)) gi (32 * t) 32) := ⟨u3.at X2.1 (n3 _ (by omega) (by omega)), fun r hr => u3.at (X2.2.1 r hr) (n3 _ (by omega) (by omega)), e3, kk⟩
    have O3 : psO T3 V1 y n (p + 4) false := ⟨u3.at O2.1 (by simp only [List.mem_cons, List.not_mem_nil, or_false]; omega), O2.2⟩
    refine ks_incN (c := 1) (e := t + 1) dX16_parse_399 rfl (by decide) rfl (by decide) rfl ?_
    refine ks_sub [(6, _), (0, _), (1, _), (2, _), (3, _)] rfl ?_
    refine ks_goto (tgt := 84) dX16_parse_402 (by decide) ?_
    refine ks_sub [(0, _), (1, _), (2, _), (3, _), (6, _)] rfl (hc T3 V1 ?_ O3 K1.2 M3 i3 h4 X3)
    refine ((K1.1.mono ?_).trans (u2.mono ?_)).trans (u3.mono ?_)
    · intro x hx; unfold LPr; simp only [List.mem_cons, List.not_mem_nil, or_false] at hx ⊢; omega
    · intro x hx; unfold LPr; simp only [List.mem_cons, List.not_mem_nil, or_false] at hx ⊢; omega
    · intro x hx; unfold LPr; simp only [List.mem_cons, List.not_mem_nil, or_false] at hx ⊢; omega
  · refine ks_callV (n := 1) (M' := mX16_skip) (c_ps_skipX (d := d + 3) (x := lN 4) O (by omega) (Or.inr ((pk_lLT (by omega) (by decide)).mpr (by omega)))) O.1 cl_X16 rfl kx_2094 kx_2096 kxp_73 kx_30 kx_2097 (by decide +kernel) rfl (by decide) (Nat.le_of_ble_eq_true rfl) rfl dX16_parse_343 rfl (fun z1 T1 y1 => ?_)
    obtain ⟨rfl, V1, K1, O1⟩ := y1
    refine ks_aload_n dX16_parse_346 rfl rfl ?_
    refine ks_getf (T := TX16) (kf := 39) kx_2407 rfl in_X16 cl_X16 (by decide) O1.1 rfl dX16_parse_347 rfl ?_
    refine ks_tv O1.2.2.2.2.1 ?_
    refine ks_if_eqZ (tgt := 355) dX16_parse_350 (by decide) rfl (fun h => absurd h (by decide)) (fun _ => ?_)
    refine ks_iconst (x := nI 0) dX16_parse_353 (by decide) rfl ?_
    refine ks_zret rfl rfl dX16_parse_354 ?_
    exact hf T1 V1 K1 O1 (by omega)
