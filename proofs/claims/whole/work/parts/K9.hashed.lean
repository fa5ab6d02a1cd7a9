/-! THE REFERENCE: hashed -/
set_option maxRecDepth 100000 in
set_option maxHeartbeats 800000 in
theorem l_hsMsg {l : Launch} {G : ks_G} {d : Nat} {S : ks_S} {V : Nat → Value} {Q : Option Value → ks_S → Prop} {P t inp ty kd : Nat} (hO : S.2.2 290 = some (rfE V)) (hk : ∀ (S1 : ks_S) (g : Nat → Nat), ks_up S S1 [336] → S1.2.2 336 = some (kB 32 g) → kO g → (∀ j, j < 32 → g j = if j = 0 then 1 else 0) → ks_X l G mX16_hashed d 45 [(0, .ref 290), (1, .ref P), (2, .int (nI t)), (3, .int (nI inp)), (4, .int (nI ty)), (5, .int (nI kd))] [] S1 Q) : ∀ (w i : Nat) (S1 : ks_S) (g : Nat → Nat), i + w = 32 → ks_up S S1 [336] → S1.2.2 336 = some (kB 32 g) → kO g → (∀ j, j < i → g j = if j = 0 then 1 else 0) → ks_X l G mX16_hashed d 14 [(0, .ref 290), (1, .ref P), (2, .int (nI t)), (3, .int (nI inp)), (4, .int (nI ty)), (5, .int (nI kd)), (6, .int (nI i))] [] S1 Q := by
  intro w
  induction w with
  | zero =>
    intro i S1 g hi hu e1 kg hz
    have o1 := hu.at hO (by decide)
    obtain rfl : i = 32 := hi
    refine ks_iload dX16_hashed_14 rfl rfl ?_
    refine ks_bipush (x := nI 32) dX16_hashed_16 (by decide) rfl ?_
    refine ks_icmp_geN (tgt := 45) (by decide) (by decide) dX16_hashed_18 (by decide) rfl (fun _ => ?_) (fun h => absurd h (by decide))
    refine ks_sub [(0, _), (1, _), (2, _), (3, _), (4, _), (5, _)] rfl ?_
    exact hk S1 g hu e1 kg hz
  | succ w ih =>
    intro i S1 g hi hu e1 kg hz
    have o1 := hu.at hO (by decide)
    refine ks_iload dX16_hashed_14 rfl rfl ?_
    refine ks_bipush (x := nI 32) dX16_hashed_16 (by decide) rfl ?_
    refine ks_icmp_geN (tgt := 45) (by omega) (by decide) dX16_hashed_18 (by decide) rfl (fun h1 => absurd h1 (by omega)) (fun h1 => ?_)
    refine ks_aload_n dX16_hashed_21 rfl rfl ?_
    refine ks_getf (T := TX16) (kf := 35) kx_2403 rfl in_X16 cl_X16 (by decide) o1 rfl dX16_hashed_22 rfl ?_
    refine ks_iload dX16_hashed_25 rfl rfl ?_
    refine ks_iload dX16_hashed_27 rfl rfl ?_
    refine ks_if_neN (tgt := 36) (by omega) dX16_hashed_29 (by decide) rfl (fun h2 => ?_) (fun h2 => ?_)
    · refine ks_iconst (x := nI 0) dX16_hashed_36 (by decide) rfl ?_
      refine ks_i2b dX16_hashed_37 rfl ?_
      refine ks_bastB (i := i) (c := 0) e1 rfl (by omega) (by decide) ((ks_by_i8 _).trans (ks_by_nI _)) dX16_hashed_38 rfl ?_
      refine ks_incN (c := 1) (e := i + 1) dX16_hashed_39 rfl (by decide) rfl (by decide) rfl ?_
      refine ks_sub [(6, _), (0, _), (1, _), (2, _), (3, _), (4, _), (5, _)] rfl ?_
      refine ks_goto (tgt := 14) dX16_hashed_42 (by decide) ?_
      refine ks_sub [(0, _), (1, _), (2, _), (3, _), (4, _), (5, _), (6, _)] rfl (ih (i + 1) _ (va_up g i 0) (by omega) (hu.trans (ks_up_set _ _ (by decide))) (ks_set_same _ _ _) (kO_up kg (by decide)) (fun j hj => ?_))
      by_cases ej : j = i
      · subst ej; rw [va_up_self, if_neg h2]
      · rw [va_up_ne _ _ ej]; exact hz j (by omega)
    · refine ks_iconst (x := nI 1) dX16_hashed_32 (by decide) rfl ?_
      refine ks_goto (tgt := 37) dX16_hashed_33 (by decide) ?_
      refine ks_i2b dX16_hashed_37 rfl ?_
      refine ks_bastB (i := i) (c := 1) e1 rfl (by omega) (by decide) ((ks_by_i8 _).trans (ks_by_nI _)) dX16_hashed_38 rfl ?_
      refine ks_incN (c := 1) (e := i + 1) dX16_hashed_39 rfl (by decide) rfl (by decide) rfl ?_
      refine ks_sub [(6, _), (0, _), (1, _), (2, _), (3, _), (4, _), (5, _)] rfl ?_
      refine ks_goto (tgt := 14) dX16_hashed_42 (by decide) ?_
      refine ks_sub [(0, _), (1, _), (2, _), (3, _), (4, _), (5, _), (6, _)] rfl (ih (i + 1) _ (va_up g i 1) (by omega) (hu.trans (ks_up_set _ _ (by decide))) (ks_set_same _ _ _) (kO_up kg (by decide)) (fun j hj => ?_))
      by_cases ej : j = i
      · subst ej; rw [va_up_self, if_pos h2]
      · rw [va_up_ne _ _ ej]; exact hz j (by omega)
set_option maxRecDepth 100000 in
set_option maxHeartbeats 1600000 in
theorem c_pt_hashed {l : Launch} {G : ks_G} {d : Nat} {S : ks_S} {V : Nat → Value} {P y N L t b k p m u e inp ty : Nat} {G9 : Nat → Nat} {c X0 : List Nat} {g5 g6 : Nat → Nat} (hO : S.2.2 290 = some (rfE V)) (hK : ptQ S P y N G9 L t b k p m u e) (hg9 : kO G9) (hC : ctX S V c) (hM : mhR S) (h305 : S.2.2 305 = some (kB 32 g5)) (k5 : kO g5) (h336 : S.2.2 336 = some (kB 32 g6)) (k6 : kO g6) (hB : buX S V 373 16384 91 X0) (hD : hsD P y) (hi : inp < k) (hty : ty < 256) (hf : ¬ (ty % 32 = 3 ∧ m ≤ inp) → (sgL G9 L b k p m u e inp ty (fl_ (fun o _ => decide (o = 171)) c)).length ≤ 16000) : ks_P l G yX16_hashed mX16_hashed (d + 5) [.ref 290, .ref P, .int (nI t), .int (nI inp), .int (nI ty)] S (fun z S' => z = none ∧ ∃ V' X', hsI S S' V V' P y N G9 L t b k p m u e (fl_ (fun o _ => decide (o = 171)) c) X' ∧ ∃ g, kO g ∧ S'.2.2 336 = some (kB 32 g) ∧ bytL g 0 32 = sgH G9 L b k p m u e inp ty (fl_ (fun o _ => decide (o = 171)) c)) := by
  obtain ⟨kd, ekd⟩ : ∃ kd, kd = ty % 32 := ⟨_, rfl⟩
  have htx : tx_ G9 b L = some (k, p, m, u, e) := by obtain ⟨_, _, _, _, _, _, h, _⟩ := hK; exact h
  have bd := tx_bd htx
  refine ks_of (by decide) rfl rfl (Nat.le_of_ble_eq_true rfl) ?_
  show ks_X l G mX16_hashed (d + 5) 0 [(0, .ref 290), (1, .ref P), (2, .int (nI t)), (3, .int (nI inp)), (4, .int (nI ty))] [] S _
  refine ks_aload_n dX16_hashed_0 rfl rfl ?_
  refine ks_callV (n := 0) (M' := mX16_unmarked) (c_md_unmarked (d := d + 2) hO hC) hO cl_X16 rfl kx_2260 kx_2262 kxp_108 kx_30 kx_2263 (by decide +kernel) rfl (by decide) (Nat.le_of_ble_eq_true rfl) rfl dX16_hashed_1 rfl (fun z1 S1 y1 => ?_)
  obtain ⟨rfl, V1, K1, C1⟩ := y1
  obtain ⟨c1, ec1⟩ : ∃ c1, c1 = (fl_ (fun o _ => decide (o = 171)) c) := ⟨_, rfl⟩
  rw [← ec1] at C1 hf ⊢
  have hc17 : c1.length ≤ 1700 := by obtain ⟨_, _, _, _, _, _, _, _, _, _, _, _, h, _⟩ := C1; exact h
  have I1 : hsI S S1 V V1 P y N G9 L t b k p m u e c1 X0 := ⟨⟨K1.1.mono (by decide), K1.2.1, fun j a1 a2 a3 a4 a5 a6 a7 => K1.2.2 j a3 a4 a5 a6⟩, hK.up K1.1 (fun x hx => hD x (by simp only [List.mem_cons, List.not_mem_nil, or_false] at hx; rcases hx with rfl | rfl | rfl <;> decide)), C1, ⟨hM.up K1.1 (by decide), g5, k5, K1.1.at h305 (by decide)⟩, ⟨g6, k6, K1.1.at h336 (by decide)⟩, hB.up K1.1 (by decide) (K1.2.2 _ (by decide) (by decide) (by decide) (by decide))⟩
  refine ks_iload dX16_hashed_4 rfl rfl ?_
  refine ks_bipush (x := nI 31) dX16_hashed_6 (by decide) rfl ?_
  refine ks_andN (k := 5) (by omega) (by decide) dX16_hashed_8 rfl ?_
  rw [show ty % 2 ^ 5 = kd from ekd.symm]
  refine ks_istore dX16_hashed_9 (by decide) rfl ?_
  refine ks_sub [(5, _), (0, _), (1, _), (2, _), (3, _), (4, _)] rfl ?_
  refine ks_iconst (x := nI 0) dX16_hashed_11 (by decide) rfl ?_
  refine ks_istore dX16_hashed_12 (by decide) rfl ?_
  refine ks_sub [(6, _), (0, _), (1, _), (2, _), (3, _), (4, _), (5, _)] rfl ?_
  refine ks_sub [(0, _), (1, _), (2, _), (3, _), (4, _), (5, _), (6, _)] rfl (l_hsMsg (d := d + 5) K1.2.1 (fun S2 gm u2 e2 kmm hm2 => ?_) 32 0 S1 g6 rfl (ks_up.rf _ _) (K1.1.at h336 (by decide)) k6 (fun j h => absurd h (Nat.not_lt_zero _)))
  obtain ⟨hk1, pt1, ct1, ⟨mh1, gi1, ki1, i51⟩, -, bu1⟩ := id I1
  have I2 : hsI S S2 V V1 P y N G9 L t b k p m u e c1 X0 := ⟨⟨hk1.1.trans (u2.mono (by decide)), u2.at hk1.2.1 (by decide), hk1.2.2⟩, pt1.up u2 (fun x hx => hD x (by rw [List.mem_singleton] at hx; rw [hx]; decide)), ct1.up u2 (by decide) ⟨rfl, rfl, rfl⟩, ⟨mh1.up u2 (by decide), gi1, ki1, u2.at i51 (by decide)⟩, ⟨gm, kmm, e2⟩, bu1.up u2 (by decide) rfl⟩
  obtain ⟨hk2, pt2, ct2, ⟨mh2, gi2, ki2, i52⟩, ⟨gm2, km2, m62⟩, bu2⟩ := id I2
  obtain ⟨g2, A2, cc2, ⟨ey2, kg2⟩, ⟨hLN2, hN162, hPB2, ht122⟩, hg2, -, hP2, hA2, ⟨a02, a12⟩, ⟨a22, a32⟩, a42, a52⟩ := id pt2
  have o2 := hk2.2.1
  have go_ : ¬ (kd = 3 ∧ m ≤ inp) → ks_X l G mX16_hashed (d + 5) 62 [(0, .ref 290), (1, .ref P), (2, .int (nI t)), (3, .int (nI inp)), (4, .int (nI ty)), (5, .int (nI kd))] [] S2 (fun z S' => z = none ∧ ∃ V' X', hsI S S' V V' P y N G9 L t b k p m u e c1 X' ∧ ∃ g, kO g ∧ S'.2.2 336 = some (kB 32 g) ∧ bytL g 0 32 = sgH G9 L b k p m u e inp ty c1) := by
    intro h3
    have lT := hf (by rw [← ekd]; exact h3)
    have eH : sgH G9 L b k p m u e inp ty c1 = shaL (shaL (sgL G9 L b k p m u e inp ty c1)) := by
      unfold sgH
      rw [if_neg (by rw [← ekd]; exact h3)]
    rw [eH]
    obtain ⟨T, eT⟩ : ∃ T, T = sgL G9 L b k p m u e inp ty c1 := ⟨_, rfl⟩
    rw [← eT] at lT ⊢
    have eT2 : T = bytL G9 b 4 ++ cntL (sgN k (sgAl ty)) ++ catF (fun i => if sgAl ty = true ∧ i ≠ inp then [] else sgIn G9 L p inp kd c1 i) 0 k ++ (cntL (sgSh m inp kd) ++ catF (sgOut G9 L u inp kd) 0 (sgSh m inp kd) ++ bytL G9 (e - 4) 4 ++ numL (lN ty) 4) := by
      rw [eT]
      unfold sgL
      rw [catL_F, catL_F, ← ekd]
      simp only [List.append_assoc]
      congr 2
      congr 1
      cases hal : sgAl ty with
      | true =>
        show catF (sgIn G9 L p inp kd c1) inp 1 = _
        rw [catF_c (g := fun j => if j = inp then sgIn G9 L p inp kd c1 j else []) (f := fun i => if true = true ∧ i ≠ inp then [] else sgIn G9 L p inp kd c1 i) (fun j _ _ => by
          by_cases ej : j = inp
          · rw [if_pos ej, if_neg (fun h => h.2 ej)]
          · rw [if_neg ej, if_pos ⟨rfl, ej⟩]), catF_one (by omega) (by omega)]
        show sgIn G9 L p inp kd c1 inp ++ [] = _
        rw [List.append_nil]
      | false =>
        show catF (sgIn G9 L p inp kd c1) 0 k = _
        exact catF_c (fun j _ _ => (if_neg (fun h => by cases h.1)).symm)
    have lT2 := congrArg List.length eT2
    simp only [List.length_append] at lT2
    rw [bytL_len] at lT2
    refine ks_aload_n dX16_hashed_62 rfl rfl ?_
    refine ks_iconst (x := nI 0) dX16_hashed_63 (by decide) rfl ?_
    refine ks_putf (T := TX16) (kf := 91) kx_2459 rfl in_X16 tyX16_ok nmX16 cl_X16 (by decide) o2 (Nat.le_of_ble_eq_true rfl) rfl rfl rfl rfl dX16_hashed_64 rfl ?_
    refine md_put mdp_91 ?_
    have u3 : ks_up S2 (ks_set S2 290 (rfE (va_up V1 91 (.int (nI 0))))) [290] := ks_up_set _ _ (by decide)
    obtain ⟨S3, eS3⟩ : ∃ S3, S3 = ks_set S2 290 (rfE (va_up V1 91 (.int (nI 0)))) := ⟨_, rfl⟩
    have o3' : (ks_set S2 290 (rfE (va_up V1 91 (.int (nI 0))))).2.2 290 = some (rfE (va_up V1 91 (.int (nI 0)))) := ks_set_same _ _ _
    rw [← eS3] at u3 o3' ⊢
    have I3 : hsI S S3 V (va_up V1 91 (.int (nI 0))) P y N G9 L t b k p m u e c1 [] := by
      obtain ⟨q1, q2, q3, ⟨q4, q5, q6, q7⟩, ⟨q8, q9, qa⟩, ⟨qb, qg, qc, qd, qe, qf⟩⟩ := id I2
      exact ⟨⟨q1.1.trans (u3.mono (by decide)), o3', fun j a1 a2 a3 a4 a5 a6 a7 => (va_up_ne _ _ a7).trans (q1.2.2 j a1 a2 a3 a4 a5 a6 a7)⟩, q2.up u3 (fun x hx => hD x (by rw [List.mem_singleton] at hx; rw [hx]; decide)), q3.up u3 (by decide) ⟨va_up_ne _ _ (by decide), va_up_ne _ _ (by decide), va_up_ne _ _ (by decide)⟩, ⟨q4.up u3 (by decide), q5, q6, u3.at q7 (by decide)⟩, ⟨q8, q9, u3.at qa (by decide)⟩, ⟨va_up_self _ _ _, qg, u3.at qc (by decide), qd, Nat.zero_le _, rfl⟩⟩
    have y3 : y ≠ 373 := fun h => (hD 373 (by decide)).1 h.symm
    obtain ⟨hk3, pt3, ct3, ⟨mh3, gi3, ki3, i53⟩, ⟨gm3, km3, m63⟩, bu3⟩ := id I3
    obtain ⟨g3, A3, cc3, ⟨ey3, kg3⟩, ⟨hLN3, hN163, hPB3, ht123⟩, hg3, -, hP3, hA3, ⟨a03, a13⟩, ⟨a23, a33⟩, a43, a53⟩ := id pt3
    have o3 := hk3.2.1
    refine ks_aload_n dX16_hashed_67 rfl rfl ?_
    refine ks_aload_n dX16_hashed_68 rfl rfl ?_
    refine ks_getN (T := TX13) (kf := 0) kx_1813 rfl in_X13 cl_X13 (by decide) hP3 rfl dX16_hashed_69 rfl ?_
    refine ks_aload_n dX16_hashed_72 rfl rfl ?_
    refine ks_getN (T := TX13) (kf := 2) kx_1816 rfl in_X13 cl_X13 (by decide) hP3 rfl dX16_hashed_73 rfl ?_
    refine ks_iload_n dX16_hashed_76 rfl rfl ?_
    refine ks_ialdN (i := t) (show S3.2.2 (P + 1) = some (kN 12 (A3 0)) from hA3 0 (by decide)) rfl (by omega) (by decide) dX16_hashed_77 rfl ?_
    rw [a03]
    refine ks_iconst (x := nI 4) dX16_hashed_78 (by decide) rfl ?_
    refine ks_callV (n := 3) (M' := mX16_lay_) (c_md_layB (d := d + 4) o3 bu3 (y := y) (s := b) (n := 4) ey3 kg3 (by omega) (by omega) y3 (by show 0 + 4 ≤ _; decide)) o3 cl_X16 rfl kx_2264 kx_2266 kxp_109 kx_30 kx_2267 (by decide +kernel) rfl (by decide) (Nat.le_of_ble_eq_true rfl) rfl dX16_hashed_79 rfl (fun z4 S4 y4 => ?_)
    obtain ⟨rfl, V4, K4, B4⟩ := y4
    rw [List.nil_append, bytL_congr (g := G9) (i2 := b) (fun j hj => hg3 _ (by omega))] at B4
    have I4 := I3.bu hD K4 B4
    obtain ⟨hk4, pt4, ct4, ⟨mh4, gi4, ki4, i54⟩, ⟨gm4, km4, m64⟩, bu4⟩ := id I4
    obtain ⟨g4, A4, cc4, ⟨ey4, kg4⟩, ⟨hLN4, hN164, hPB4, ht124⟩, hg4, -, hP4, hA4, ⟨a04, a14⟩, ⟨a24, a34⟩, a44, a54⟩ := id pt4
    have o4 := hk4.2.1
    refine ks_iload dX16_hashed_82 rfl rfl ?_
    refine ks_sipush (x := nI 128) dX16_hashed_84 (by decide) rfl ?_
    refine ks_iand dX16_hashed_87 rfl ?_
    refine ks_if_eq (tgt := 95) dX16_hashed_88 (by decide) rfl (fun h5 => ?_) (fun h5 => ?_)
    · have hal : sgAl ty = false := decide_eq_false (by have := sg_bit ty hty; have h6 := this.mp h5; omega)
      rw [hal] at eT2 lT2
      have lcn := cntL_len k
      refine ks_iconst (x := nI 0) dX16_hashed_95 (by decide) rfl ?_
      refine ks_istore dX16_hashed_96 (by decide) rfl ?_
      refine ks_sub [(6, _), (0, _), (1, _), (2, _), (3, _), (4, _), (5, _)] rfl ?_
      refine ks_aload_n dX16_hashed_98 rfl rfl ?_
      refine ks_iload dX16_hashed_99 rfl rfl ?_
      refine ks_if_eqN (tgt := 108) (by decide) dX16_hashed_101 (by decide) rfl (fun h6 => ?_) (fun h6 => ?_)
      · refine ks_aload_n dX16_hashed_108 rfl rfl ?_
        refine ks_getN (T := TX13) (kf := 4) kx_1820 rfl in_X13 cl_X13 (by decide) hP4 rfl dX16_hashed_109 rfl ?_
        refine ks_iload_n dX16_hashed_112 rfl rfl ?_
        refine ks_ialdN (i := t) (show S4.2.2 (P + 3) = some (kN 12 (A4 2)) from hA4 2 (by decide)) rfl (by omega) (by decide) dX16_hashed_113 rfl ?_
        rw [a24]
        refine ks_i2lN (by omega) dX16_hashed_114 rfl ?_
        refine ks_callV (n := 1) (M' := mX16_layCount) (c_md_layCount (d := d + 3) o4 bu4 (n := k) (by omega) (by rw [bytL_len]; decide)) o4 cl_X16 rfl kx_2268 kx_2270 kxp_110 kx_30 kx_2271 (by decide +kernel) rfl (by decide) (Nat.le_of_ble_eq_true rfl) rfl dX16_hashed_115 rfl (fun z7 S7 y7 => ?_)
        obtain ⟨rfl, V7, K7, B7⟩ := y7
        have I7 := I4.bu hD K7 B7
        refine ks_iconst (x := nI 0) dX16_hashed_118 (by decide) rfl ?_
        refine ks_istore dX16_hashed_119 (by decide) rfl ?_
        refine ks_sub [(7, _), (0, _), (1, _), (2, _), (3, _), (4, _), (5, _), (6, _)] rfl ?_
        exact ks_sub [(0, _), (1, _), (2, _), (3, _), (4, _), (5, _), (6, _), (7, _)] rfl (l_hsIn (d := d + 1) hD hg9 hi hty ekd htx lT (al := false) (fun h => by omega) hc17 k 0 S7 V7 _ (by omega) I7 eT2.symm)
      · exact absurd h6 (by decide)
    · have hal : sgAl ty = true := decide_eq_true (by have := sg_bit ty hty; have h6 := mt this.mpr h5; omega)
      rw [hal] at eT2 lT2
      have lcn := cntL_len 1
      refine ks_iconst (x := nI 1) dX16_hashed_91 (by decide) rfl ?_
      refine ks_goto (tgt := 96) dX16_hashed_92 (by decide) ?_
      refine ks_istore dX16_hashed_96 (by decide) rfl ?_
      refine ks_sub [(6, _), (0, _), (1, _), (2, _), (3, _), (4, _), (5, _)] rfl ?_
      refine ks_aload_n dX16_hashed_98 rfl rfl ?_
      refine ks_iload dX16_hashed_99 rfl rfl ?_
      refine ks_if_eqN (tgt := 108) (by decide) dX16_hashed_101 (by decide) rfl (fun h6 => ?_) (fun h6 => ?_)
      · exact absurd h6 (by decide)
      · refine ks_lconst (x := lN 1) dX16_hashed_104 (by decide) rfl ?_
        refine ks_goto (tgt := 115) dX16_hashed_105 (by decide) ?_
        refine ks_callV (n := 1) (M' := mX16_layCount) (c_md_layCount (d := d + 3) o4 bu4 (n := 1) (by omega) (by rw [bytL_len]; decide)) o4 cl_X16 rfl kx_2268 kx_2270 kxp_110 kx_30 kx_2271 (by decide +kernel) rfl (by decide) (Nat.le_of_ble_eq_true rfl) rfl dX16_hashed_115 rfl (fun z7 S7 y7 => ?_)
        obtain ⟨rfl, V7, K7, B7⟩ := y7
        have I7 := I4.bu hD K7 B7
        refine ks_iconst (x := nI 0) dX16_hashed_118 (by decide) rfl ?_
        refine ks_istore dX16_hashed_119 (by decide) rfl ?_
        refine ks_sub [(7, _), (0, _), (1, _), (2, _), (3, _), (4, _), (5, _), (6, _)] rfl ?_
        exact ks_sub [(0, _), (1, _), (2, _), (3, _), (4, _), (5, _), (6, _), (7, _)] rfl (l_hsIn (d := d + 1) hD hg9 hi hty ekd htx lT (al := true) (fun h => by omega) hc17 k 0 S7 V7 _ (by omega) I7 eT2.symm)
  refine ks_iload dX16_hashed_45 rfl rfl ?_
  refine ks_iconst (x := nI 3) dX16_hashed_47 (by decide) rfl ?_
  refine ks_icmp_neN (tgt := 62) (by omega) (by decide) dX16_hashed_48 (by decide) rfl (fun h1 => ?_) (fun h1 => ?_)
  · exact go_ (fun h => h1 h.1)
  · refine ks_iload_n dX16_hashed_51 rfl rfl ?_
    refine ks_aload_n dX16_hashed_52 rfl rfl ?_
    refine ks_getN (T := TX13) (kf := 5) kx_1822 rfl in_X13 cl_X13 (by decide) hP2 rfl dX16_hashed_53 rfl ?_
    refine ks_iload_n dX16_hashed_56 rfl rfl ?_
    refine ks_ialdN (i := t) (show S2.2.2 (P + 4) = some (kN 12 (A2 3)) from hA2 3 (by decide)) rfl (by omega) (by decide) dX16_hashed_57 rfl ?_
    rw [a32]
    refine ks_icmp_ltN (tgt := 62) (by omega) (by omega) dX16_hashed_58 (by decide) rfl (fun h2 => ?_) (fun h2 => ?_)
    · exact go_ (fun h => by omega)
    · refine ks_ret rfl dX16_hashed_61 ?_
      exact ⟨rfl, V1, X0, I2, gm, kmm, e2, by unfold sgH; rw [if_pos ⟨by omega, by omega⟩]; exact msg_one hm2⟩
