/-! THE REFERENCE: unlocks -/
abbrev LMz : List Nat := 365 :: 366 :: LMx
abbrev LMu : List Nat := [73, 76, 77, 78, 79, 80, 81, 82, 84, 40, 41, 63, 67, 70, 74, 87, 88, 89, 91]
def ulK (S S' : ks_S) (V V' : Nat → Value) (F F' : Nat) : Prop := sfK LMz S S' F F' ∧ ∀ k, k ∉ LMu → V' k = V k
theorem ulK.trans {S S1 S2 : ks_S} {V V1 V2 : Nat → Value} {F F1 F2 : Nat} (h : ulK S S1 V V1 F F1) (k : ulK S1 S2 V1 V2 F1 F2) : ulK S S2 V V2 F F2 := ⟨h.1.trans k.1, fun j a => (k.2 j a).trans (h.2 j a)⟩
theorem ulK.rf (S : ks_S) (V : Nat → Value) (F : Nat) : ulK S S V V F F := ⟨sfK.rf _ _ _, fun _ _ => rfl⟩
theorem rrK.u {S S1 : ks_S} {V V1 : Nat → Value} {F F1 : Nat} (h : rrK S S1 V V1 F F1) : ulK S S1 V V1 F F1 := ⟨h.1.mono (fun a ha => List.mem_cons_of_mem _ (List.mem_cons_of_mem _ ha)), fun j a => h.2 j (fun q => a ((show ∀ x ∈ LMh, x ∈ LMu by decide) j q))⟩
theorem ulK.ob {S S1 : ks_S} {V V1 : Nat → Value} {F : Nat} (hu : ks_up S S1 [290]) (hv : ∀ k, k ∉ LMu → V1 k = V k) : ulK S S1 V V1 F F := ⟨(sfK.of hu).mono (by decide), hv⟩
/-- the machine between calls -/
def mqB (S : ks_S) (V : Nat → Value) (F : Nat) (Gp : Pt) : Prop := ∃ xs ys vs, S.2.2 290 = some (rfE V) ∧ rsQ S V F xs ys vs ∧ ((mhR S ∧ ∃ g, kO g ∧ S.2.2 305 = some (kB 32 g)) ∧ (∃ g, kO g ∧ S.2.2 336 = some (kB 32 g)) ∧ (∃ X, buX S V 373 16384 91 X) ∧ (∃ c, ctX S V c) ∧ ccS S Gp) ∧ rhS S ∧ S.2.2 369 = some (kN 21 nedR) ∧ lowS S ∧ ∃ dn, S.2.2 368 = some (kZ 1601 dn)
theorem mqS.B {S : ks_S} {V : Nat → Value} {F : Nat} {xs ys : List (List Nat)} {vs : Vs} {Gp : Pt} {P y N L t b k p m u e inp : Nat} {G9 : Nat → Nat} (h : mqS S V F xs ys vs Gp P y N G9 L t b k p m u e inp) : mqB S V F Gp := by
  obtain ⟨h1, h2, ⟨-, -, h3⟩, h4⟩ := h
  exact ⟨xs, ys, vs, h1, h2, h3, h4⟩
/-- the stack is emptied, the transaction named -/
theorem mqB.S {S S1 : ks_S} {V V1 : Nat → Value} {F : Nat} {Gp : Pt} {P y N L t b k p m u e inp : Nat} {G9 : Nat → Nat} (h : mqB S V F Gp) (hu : ks_up S S1 [290]) (o1 : S1.2.2 290 = some (rfE V1)) (hv : ∀ j ∈ ([70, 73, 87, 88, 89, 91] : List Nat), V1 j = V j) (h67 : V1 67 = .int (nI 0)) (hp : ptQ S1 P y N G9 L t b k p m u e) (h76 : V1 76 = .ref P ∧ V1 77 = .int (nI t) ∧ V1 78 = .int (nI inp)) : ∃ ys vs, mqS S1 V1 F [] ys vs Gp P y N G9 L t b k p m u e inp := by
  obtain ⟨xs, ys, vs, hO, hK, ⟨⟨m1, g5, k5, m2⟩, ⟨g6, k6, m3⟩, ⟨X, m4⟩, ⟨c, m5⟩, m6⟩, hh, h369, hlow, dn, h368⟩ := h
  have nx : ∀ x ∈ ([290] : List Nat), ∃ e, S.2.2 x = some e ∧ ∀ g, e ≠ kB 520 g := fun x hx => by
    rw [List.mem_singleton] at hx
    subst hx
    exact ⟨_, hO, fun g h => by cases h⟩
  have K1 : rsQ S1 V1 F [] ys vs := by
    obtain ⟨T, sz, oz, vz, ⟨h1, h2, ⟨a1, a2, a3⟩, ⟨b1, b2, b3⟩, h5, h6⟩, e, g, kg, h8⟩ := hK
    have K0 : rsK S V1 T sz oz vz [] ys vs := ⟨h1, h2, ⟨h67, (hv _ (by decide)).trans a2, (hv _ (by decide)).trans a3⟩, ⟨Nat.zero_le _, b2, b3⟩, fun i hi => absurd hi (Nat.not_lt_zero _), h6⟩
    exact ⟨T, sz, oz, vz, K0.up hu (by decide) nx, e, g, kg, hu.at h8 (by decide)⟩
  refine ⟨ys, vs, o1, K1, ⟨hp, h76, ⟨m1.up hu (by decide), g5, k5, hu.at m2 (by decide)⟩, ⟨g6, k6, hu.at m3 (by decide)⟩, ⟨X, m4.up hu (by decide) (hv _ (by decide))⟩, ⟨c, m5.up hu (by decide) ⟨hv _ (by decide), hv _ (by decide), hv _ (by decide)⟩⟩, m6.up hu (by decide)⟩, hh.sf (sfK.of (F := 0) hu) (by decide), hu.at h369 (by decide), hlow.sf (sfK.of (F := 0) hu) (fun x hx => ?_), dn, hu.at h368 (by decide)⟩
  rw [List.mem_singleton] at hx
  subst hx
  exact ⟨_, o1, fun g h => by cases h⟩
theorem mqS.top0 {S : ks_S} {V : Nat → Value} {F : Nat} {xs ys : List (List Nat)} {vs : Vs} {Gp : Pt} {P y N L t b k p m u e inp : Nat} {G9 : Nat → Nat} (h : mqS S V F xs ys vs Gp P y N G9 L t b k p m u e inp) (hT9 : mqT P y N G9 k u e inp) : mqS (ks_set S 290 (rfE (va_up V 67 (.int (nI 0))))) (va_up V 67 (.int (nI 0))) F [] ys vs Gp P y N G9 L t b k p m u e inp := by
  obtain ⟨Q, m⟩ := rsQ.pop (k := xs.length) h.1 h.2.1
  rw [Nat.sub_self, List.drop_length] at Q
  rw [Nat.sub_self] at m
  exact h.ms hT9 m Q
def fiR (B : Nat → Bk) (M : List Nat) (t : Nat) (R : List Nat) (i : Nat) : Nat := plR B (ks_num (mg M) (inA M t i + 32) 4) (fun j => mg M (inA M t i + j)) R
def gdR (Gp : Pt) (M : List Nat) (t i : Nat) : List Nat → List Nat → List Nat → Bool := gdF Gp (mg M) M.length (bsP M t) (txP M t).1 (txP M t).2.1 (txP M t).2.2.1 (txP M t).2.2.2.1 (txP M t).2.2.2.2 i
def lkR (B : Nat → Bk) (x : Nat) : List Nat := bytL (mg (bkM (B (x / 3072)))) (oS (mg (bkM (B (x / 3072)))) (bkM (B (x / 3072))).length (txP (bkM (B (x / 3072))) (x / 256 % 12)).2.2.2.1 (x % 256)) (oZ (mg (bkM (B (x / 3072)))) (bkM (B (x / 3072))).length (txP (bkM (B (x / 3072))) (x / 256 % 12)).2.2.2.1 (x % 256))
def ukR (Gp : Pt) (B : Nat → Bk) (M : List Nat) (t i x : Nat) : Bool := ulS (gdR Gp M t i) (lkM M t i) (scI (mg M) M.length (txP M t).2.1 i) (lkR B x)
theorem plR_c {B : Nat → Bk} {ix : Nat} {id id' : Nat → Nat} {R : List Nat} (h : ∀ j, j < 32 → id j = id' j) : plR B ix id R = plR B ix id' R := plD_congr (fun j _ _ => by
  unfold rmIs
  exact congrArg (fun b => decide (R.getD j 0 % 256 = ix) && b) (sm32_cg (fun j hj => rfl) (fun j hj => by rw [Nat.zero_add]; exact h j hj)))
theorem p2_b {g : Nat → Nat} {s n : Nat} : p2sh (bytL g s n) = decide (n = 23 ∧ g s = 169 ∧ g (s + 1) = 20 ∧ g (s + 22) = 135) := by
  unfold p2sh
  rw [bytL_len]
  by_cases h : n = 23
  · subst h
    rw [bytL_at _ _ _ (by decide), bytL_at _ _ _ (by decide), bytL_at _ _ _ (by decide), Nat.add_zero]
  · rw [decide_eq_false (fun q => h q.1), decide_eq_false (fun q => h q.1)]
theorem topTr_at {xs : List (List Nat)} (h : 0 < xs.length) : topTr xs = isTr (xs.getD 0 []) := by
  match xs, h with
  | x :: r, _ => rfl
set_option maxRecDepth 100000 in
set_option maxHeartbeats 800000 in
theorem l_ulPush {l : Launch} {G : ks_G} {d : Nat} {Gp : Pt} {P y N L t b k p m u e inp : Nat} {G9 : Nat → Nat} (hT9 : mqT P y N G9 k u e inp) {ys : List (List Nat)} {vs : Vs} {S0 : ks_S} {V0 : Nat → Value} {F0 : Nat} {P9 : Option Value → ks_S → Prop} (h0 : 0 < vs.2.length) (hl : vs.2.length ≤ 1000) (hk : ∀ (S1 : ks_S) (V1 : Nat → Value) (F1 : Nat), rrK S0 S1 V0 V1 F0 F1 → mqS S1 V1 F1 (vs.2.drop 1) ys vs Gp P y N G9 L t b k p m u e inp → ks_X l G mX16_unlocks (d + 12) 341 [(0, .ref 290)] [] S1 P9) : ∀ (f q : Nat) (S1 : ks_S) (V1 : Nat → Value) (F1 : Nat), q + f + 1 = vs.2.length → rrK S0 S1 V0 V1 F0 F1 → mqS S1 V1 F1 (vs.2.drop (vs.2.length - q)) ys vs Gp P y N G9 L t b k p m u e inp → ks_X l G mX16_unlocks (d + 12) 305 [(0, .ref 290), (12, .int (nI q))] [] S1 P9 := by
  intro f
  induction f with
  | zero =>
    intro q S1 V1 F1 hi R1 M1
    obtain ⟨v67, v70, v73, bx9, by8, bv9⟩ := M1.2.1.v67
    refine ks_iload dX16_unlocks_305 rfl rfl ?_
    refine ks_aload_n dX16_unlocks_307 rfl rfl ?_
    refine ks_getf (T := TX16) (kf := 73) kx_2441 rfl in_X16 cl_X16 (by decide) M1.1 rfl dX16_unlocks_308 rfl ?_
    refine ks_tv v73 ?_
    refine ks_iconst (x := nI 1) dX16_unlocks_311 (by decide) rfl ?_
    refine ks_subN (by omega) dX16_unlocks_312 rfl ?_
    refine ks_icmp_geN (tgt := 341) (by omega) (by omega) dX16_unlocks_313 (by decide) rfl (fun h1 => ?_) (fun h1 => absurd h1 (by omega))
    rw [show vs.2.length - q = 1 by omega] at M1
    exact ks_sub [(0, _)] rfl (hk S1 V1 F1 R1 M1)
  | succ f ih =>
    intro q S1 V1 F1 hi R1 M1
    obtain ⟨v67, v70, v73, bx9, by8, bv9⟩ := M1.2.1.v67
    refine ks_iload dX16_unlocks_305 rfl rfl ?_
    refine ks_aload_n dX16_unlocks_307 rfl rfl ?_
    refine ks_getf (T := TX16) (kf := 73) kx_2441 rfl in_X16 cl_X16 (by decide) M1.1 rfl dX16_unlocks_308 rfl ?_
    refine ks_tv v73 ?_
    refine ks_iconst (x := nI 1) dX16_unlocks_311 (by decide) rfl ?_
    refine ks_subN (by omega) dX16_unlocks_312 rfl ?_
    refine ks_icmp_geN (tgt := 341) (by omega) (by omega) dX16_unlocks_313 (by decide) rfl (fun h1 => absurd h1 (by omega)) (fun h1 => ?_)
    obtain ⟨T, sz, oz, vz, hK, rfl, gS, kS, h367⟩ := id M1.2.1
    obtain ⟨hT, ⟨h362, h364, h366⟩, -, -, ex, ey, ev, hU⟩ := id hK
    obtain ⟨r, g, a1, a2, a3, a4, a5⟩ := ev q (by omega)
    have ld : (vs.2.drop (vs.2.length - q)).length = q := by rw [List.length_drop]; omega
    obtain ⟨n9, en9⟩ : ∃ n, n = vz q := ⟨_, rfl⟩
    rw [← en9] at a4 a5
    refine ks_aload_n dX16_unlocks_316 rfl rfl ?_
    refine ks_aload_n dX16_unlocks_317 rfl rfl ?_
    refine ks_getf (T := TX16) (kf := 71) kx_2439 rfl in_X16 cl_X16 (by decide) M1.1 rfl dX16_unlocks_318 rfl ?_
    refine ks_iload dX16_unlocks_321 rfl rfl ?_
    refine ks_aaldN (i := q) (b := r) (by decide) (hT.1 2 (by decide)) rfl (by omega) (by decide) a1 dX16_unlocks_323 rfl ?_
    refine ks_iconst (x := nI 0) dX16_unlocks_324 (by decide) rfl ?_
    refine ks_aload_n dX16_unlocks_325 rfl rfl ?_
    refine ks_getf (T := TX16) (kf := 72) kx_2440 rfl in_X16 cl_X16 (by decide) M1.1 rfl dX16_unlocks_326 rfl ?_
    refine ks_iload dX16_unlocks_329 rfl rfl ?_
    refine ks_ialdN (i := q) h366 rfl (by omega) (by decide) dX16_unlocks_331 rfl ?_
    rw [← en9]
    refine ks_callV (n := 3) (M' := mX16_push) (c_rs_push (d := d + 10) M1.1 hK (y := r) (at_ := 0) (n := n9) a2 a3 (by omega) (by decide) (fun h => by have := (hT.2.1 _ _ _ _ _ h a1).1; omega)) M1.1 cl_X16 rfl kx_2177 kx_2179 kxp_90 kx_30 kx_2180 (by decide +kernel) rfl (by decide) (Nat.le_of_ble_eq_true rfl) rfl dX16_unlocks_332 rfl (fun z2 S2 y2 => ?_)
    obtain ⟨rfl, T2, sz2, V2, sf2, o2, hv2, hc⟩ := y2
    rcases hc with ⟨-, c1, c2, -, c3⟩ | ⟨c1, -⟩
    rotate_left
    · exact absurd ⟨a4, by rw [ld]; omega⟩ c1
    have m2 : msK S1 S2 V1 V2 (frT T) (frT T2) := ⟨sf2.mono (by decide), o2, fun k h1 _ h3 => hv2 k h1 h3⟩
    have Q2 : rsQ S2 V2 (frT T2) (vs.2.drop (vs.2.length - (q + 1))) ys vs := by
      refine ⟨T2, sz2, oz, vz, ?_, rfl, gS, kS, sf2.2 367 _ h367 (by decide) (fun g h => absurd (kB_lq h) (by decide))⟩
      rw [ls_drop (by omega), a5]
      exact c3
    refine ks_incN (c := 1) (e := q + 1) dX16_unlocks_335 rfl (by decide) rfl (by decide) rfl ?_
    refine ks_sub [(12, _), (0, _)] rfl ?_
    refine ks_goto (tgt := 305) dX16_unlocks_338 (by decide) ?_
    exact ks_sub [(0, _), (12, _)] rfl (ih (q + 1) S2 V2 (frT T2) (by omega) (R1.trans (mqK.ms m2).j.r) (M1.ms hT9 m2 Q2))
set_option maxRecDepth 100000 in
set_option maxHeartbeats 800000 in
theorem l_ul297 {l : Launch} {G : ks_G} {d : Nat} {S : ks_S} {V : Nat → Value} {F : Nat} {xs ys : List (List Nat)} {vs : Vs} {Gp : Pt} {P y N L t b k p m u e inp : Nat} {G9 : Nat → Nat} (hM : mqS S V F xs ys vs Gp P y N G9 L t b k p m u e inp) (hT9 : mqT P y N G9 k u e inp) (h0 : 0 < vs.2.length) (hl : vs.2.length ≤ 1000) : ks_X l G mX16_unlocks (d + 12) 297 [(0, .ref 290)] [] S (fun z S' => z = some (.int (ks_bo (match rnW (gdF Gp G9 L b k p m u e inp) (lkB G9 L p e inp) (vs.2.getD 0 []) (vs.2.drop 1) with | none => false | some t9 => topTr t9.1))) ∧ ∃ V' F', ulK S S' V V' F F' ∧ mqB S' V' F' Gp) := by
  have M1 := hM.top0 hT9
  have R1 := (rrK.rf S V F).put (j := 67) (v := .int (nI 0)) (by decide)
  refine ks_aload_n dX16_unlocks_297 rfl rfl ?_
  refine ks_iconst (x := nI 0) dX16_unlocks_298 (by decide) rfl ?_
  refine ks_putf (T := TX16) (kf := 67) kx_2435 rfl in_X16 tyX16_ok nmX16 cl_X16 (by decide) hM.1 (Nat.le_of_ble_eq_true rfl) rfl rfl rfl rfl dX16_unlocks_299 rfl ?_
  refine md_put mdp_67 ?_
  refine ks_iconst (x := nI 0) dX16_unlocks_302 (by decide) rfl ?_
  refine ks_istore dX16_unlocks_303 (by decide) rfl ?_
  refine ks_sub [(12, _), (0, _)] rfl ?_
  refine ks_sub [(0, _), (12, _)] rfl ?_
  refine l_ulPush (S0 := S) (V0 := V) (F0 := F) hT9 h0 hl (fun S2 V2 F2 R2 M2 => ?_) (vs.2.length - 1) 0 _ _ F (by omega) R1 (by rw [Nat.sub_zero, List.drop_length]; exact M1)
  obtain ⟨v67, v70, v73, bx9, by8, bv9⟩ := M2.2.1.v67
  obtain ⟨T, sz, oz, vz, hK, eF, gS, kS, h367⟩ := id M2.2.1
  obtain ⟨hT, ⟨h362, h364, h366⟩, -, -, ex, ey, ev, hU⟩ := id hK
  obtain ⟨r, g, a1, a2, a3, a4, a5⟩ := ev (vs.2.length - 1) (by omega)
  rw [Nat.sub_self] at a5
  have hr := hT.hi M2.2.2.2.2.2.1.no a1
  obtain ⟨n9, en9⟩ : ∃ n, n = vz (vs.2.length - 1) := ⟨_, rfl⟩
  rw [← en9] at a4 a5
  have ln : (vs.2.getD 0 []).length = n9 := by rw [a5, bytL_len]
  have ck : cdK vs r 520 (0 + n9) (fun j => (vs.2.getD 0 []).getD j 0) := ⟨⟨by omega, by decide, by decide, by omega⟩, .inr ⟨rfl, h0, by rw [← hU]; exact a1, by omega, fun j _ => rfl⟩⟩
  have cd : cdQ S2 r 520 (0 + n9) (fun j => (vs.2.getD 0 []).getD j 0) := ⟨g, a3, a2, fun j hj => by show g j = (vs.2.getD 0 []).getD j 0; rw [a5, bytL_at _ _ _ (by omega), Nat.zero_add]⟩
  have eb : bytL (fun j => (vs.2.getD 0 []).getD j 0) 0 n9 = vs.2.getD 0 [] := by rw [← ln]; exact bytL_getD _
  have lx : (vs.2.drop 1).length ≤ 1000 := by rw [List.length_drop]; omega
  refine ks_aload_n dX16_unlocks_341 rfl rfl ?_
  refine ks_aload_n dX16_unlocks_342 rfl rfl ?_
  refine ks_getf (T := TX16) (kf := 71) kx_2439 rfl in_X16 cl_X16 (by decide) M2.1 rfl dX16_unlocks_343 rfl ?_
  refine ks_aload_n dX16_unlocks_346 rfl rfl ?_
  refine ks_getf (T := TX16) (kf := 73) kx_2441 rfl in_X16 cl_X16 (by decide) M2.1 rfl dX16_unlocks_347 rfl ?_
  refine ks_tv v73 ?_
  refine ks_iconst (x := nI 1) dX16_unlocks_350 (by decide) rfl ?_
  refine ks_subN (by omega) dX16_unlocks_351 rfl ?_
  refine ks_aaldN (i := vs.2.length - 1) (b := r) (by decide) (hT.1 2 (by decide)) rfl (by omega) (by decide) a1 dX16_unlocks_352 rfl ?_
  refine ks_iconst (x := nI 0) dX16_unlocks_353 (by decide) rfl ?_
  refine ks_aload_n dX16_unlocks_354 rfl rfl ?_
  refine ks_getf (T := TX16) (kf := 72) kx_2440 rfl in_X16 cl_X16 (by decide) M2.1 rfl dX16_unlocks_355 rfl ?_
  refine ks_aload_n dX16_unlocks_358 rfl rfl ?_
  refine ks_getf (T := TX16) (kf := 73) kx_2441 rfl in_X16 cl_X16 (by decide) M2.1 rfl dX16_unlocks_359 rfl ?_
  refine ks_tv v73 ?_
  refine ks_iconst (x := nI 1) dX16_unlocks_362 (by decide) rfl ?_
  refine ks_subN (by omega) dX16_unlocks_363 rfl ?_
  refine ks_ialdN (i := vs.2.length - 1) h366 rfl (by omega) (by decide) dX16_unlocks_364 rfl ?_
  rw [← en9]
  refine ks_callV (n := 3) (M' := mX16_run) (c_rs_run (d := d) M2 hT9 ck cd (by omega) lx) M2.1 cl_X16 rfl kx_2150 kx_2152 kxp_84 kx_30 kx_2153 (by decide +kernel) rfl (by decide) (Nat.le_of_ble_eq_true rfl) rfl dX16_unlocks_365 rfl (fun z3 S3 y3 => ?_)
  rw [eb] at y3
  obtain ⟨rfl, V3, F3, xs3, ys3, R3, M3, h3⟩ := y3
  have U3 := (R2.trans R3).u
  obtain ⟨v67', -, -, bx3, -⟩ := M3.2.1.v67
  cases hw : rnW (gdF Gp G9 L b k p m u e inp) (lkB G9 L p e inp) (vs.2.getD 0 []) (vs.2.drop 1) with
  | none =>
    refine ks_ti (y := ks_bo false) rfl ?_
    refine ks_if_eqZ (tgt := 390) dX16_unlocks_368 (by decide) rfl (fun h5 => ?_) (fun h5 => ?_)
    · refine ks_iconst (x := nI 0) dX16_unlocks_390 (by decide) rfl ?_
      refine ks_zret rfl rfl dX16_unlocks_391 ?_
      exact ⟨rfl, V3, F3, U3, M3.B⟩
    · exact absurd h5 (by decide)
  | some s9 =>
    refine ks_ti (y := ks_bo true) rfl ?_
    obtain ⟨e9, -⟩ := h3 s9 hw
    obtain rfl := e9.symm
    show ks_X _ _ _ _ _ _ _ _ (fun z S' => z = some (.int (ks_bo (topTr xs3))) ∧ ∃ V' F', ulK S S' V V' F F' ∧ mqB S' V' F' Gp)
    refine ks_if_eqZ (tgt := 390) dX16_unlocks_368 (by decide) rfl (fun h5 => ?_) (fun h5 => ?_)
    · exact absurd h5 (by decide)
    · refine ks_aload_n dX16_unlocks_371 rfl rfl ?_
      refine ks_getf (T := TX16) (kf := 67) kx_2435 rfl in_X16 cl_X16 (by decide) M3.1 rfl dX16_unlocks_372 rfl ?_
      refine ks_tv v67' ?_
      refine ks_if_leN (tgt := 390) (by omega) dX16_unlocks_375 (by decide) rfl (fun h6 => ?_) (fun h6 => ?_)
      · refine ks_iconst (x := nI 0) dX16_unlocks_390 (by decide) rfl ?_
        refine ks_zret rfl rfl dX16_unlocks_391 ?_
        have hx0 : xs3 = [] := List.eq_nil_of_length_eq_zero (by omega)
        subst hx0
        exact ⟨rfl, V3, F3, U3, M3.B⟩
      · refine ks_aload_n dX16_unlocks_378 rfl rfl ?_
        refine ks_iconst (x := nI 0) dX16_unlocks_379 (by decide) rfl ?_
        refine ks_callV (n := 1) (M' := mX16_isTrue) (c_rs_isTrue (d := d + 11) M3.1 M3.2.1 (k := 0) (by omega)) M3.1 cl_X16 rfl kx_2169 kx_2171 kxp_88 kx_30 kx_2172 (by decide +kernel) rfl (by decide) (Nat.le_of_ble_eq_true rfl) rfl dX16_unlocks_380 rfl (fun z7 S7 y7 => ?_)
        obtain ⟨rfl, hT7⟩ := y7
        obtain rfl := hT7.symm
        rw [topTr_at (by omega)]
        refine ks_if_eqZ (tgt := 390) dX16_unlocks_383 (by decide) rfl (fun h8 => ?_) (fun h8 => ?_)
        · refine ks_iconst (x := nI 0) dX16_unlocks_390 (by decide) rfl ?_
          refine ks_zret rfl rfl dX16_unlocks_391 ?_
          rw [h8]
          exact ⟨rfl, V3, F3, U3, M3.B⟩
        · refine ks_iconst (x := nI 1) dX16_unlocks_386 (by decide) rfl ?_
          refine ks_goto (tgt := 391) dX16_unlocks_387 (by decide) ?_
          refine ks_zret rfl rfl dX16_unlocks_391 ?_
          rw [h8]
          exact ⟨rfl, V3, F3, U3, M3.B⟩
