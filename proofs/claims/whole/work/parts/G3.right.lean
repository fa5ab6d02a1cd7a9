/-! THE REFERENCE: a signature looked at -/
def exW (S : ks_S) : Prop := ∀ k, 329 ≤ k → k ≤ 335 → ∃ V, wA S k V
theorem exW.up {S S1 : ks_S} {L : List Nat} (h : exW S) (hu : ks_up S S1 L) (hn : ∀ k ∈ L, 329 ≤ k → k ≤ 335 → ∃ V, wA S1 k V) : exW S1 := by
  intro k h1 h2
  by_cases e : k ∈ L
  · exact hn k e h1 h2
  · obtain ⟨V, hV⟩ := h k h1 h2
    exact ⟨V, hV.up hu e⟩
theorem exW.t {S S1 : ks_S} {L : List Nat} {t : Nat} (h : exW S) (hu : ks_up S S1 L) (ht : ∃ V, wA S1 t V) (hL : ∀ k ∈ L, k = t ∨ k < 329 ∨ 335 < k) : exW S1 := h.up hu (fun k hk h1 h2 => by
  have := hL k hk
  have e : k = t := by omega
  rw [e]; exact ht)
theorem exW.k {S S1 : ks_S} {L : List Nat} (h : exW S) (hu : ks_up S S1 L) (hL : ∀ k ∈ L, k < 329 ∨ 335 < k) : exW S1 := h.up hu (fun k hk h1 h2 => by have := hL k hk; omega)
/-- alike, or none both -/
def ptZ (P Q : Pt) : Prop := P = Q ∨ (P.2.2 = 0 ∧ Q.2.2 = 0)
theorem ptZ.D {P Q : Pt} (h : ptZ P Q) : ptZ (rfD P) (rfD Q) := by
  rcases h with rfl | ⟨h1, h2⟩
  · exact Or.inl rfl
  · refine Or.inr ?_
    unfold rfD
    rw [if_pos h1, if_pos h2]
    exact ⟨h1, h2⟩
theorem ptZ.A {P P' Q Q' : Pt} (h : ptZ P P') (k : ptZ Q Q') : ptZ (rfA P Q) (rfA P' Q') := by
  rcases k with rfl | ⟨k1, k2⟩
  · rcases h with rfl | ⟨h1, h2⟩
    · exact Or.inl rfl
    · unfold rfA
      by_cases e : Q.2.2 = 0
      · rw [if_pos e, if_pos e]; exact Or.inr ⟨h1, h2⟩
      · rw [if_neg e, if_neg e, if_pos h1, if_pos h2]; exact Or.inl rfl
  · unfold rfA
    rw [if_pos k1, if_pos k2]
    exact h
theorem ptZ.L {P : Pt} {U : Nat} : ∀ {k : Nat} {Q Q' : Pt}, ptZ Q Q' → ptZ (rmL P U k Q) (rmL P U k Q')
  | 0, _, _, h => h
  | k + 1, Q, Q', h => by
    show ptZ (rmL P U k (if _ then _ else _)) (rmL P U k (if _ then _ else _))
    by_cases e : U / 2 ^ k % 2 = 1
    · rw [if_pos e, if_pos e]; exact ptZ.L (h.D.A (Or.inl rfl))
    · rw [if_neg e, if_neg e]; exact ptZ.L h.D
def ecQ (Gp K : Pt) (U W : Nat) : Pt := rfA (rmL Gp U 256 (0, 0, 0)) (rmL K W 256 (0, 0, 0))
def ecX (Q : Pt) : Nat := mM Q.1 (mM (ivM Q.2.2) (ivM Q.2.2))
def ecR (Q : Pt) (q : Nat) : Bool := decide (¬ Q.2.2 = 0 ∧ (if ecX Q < nN then ecX Q else ecX Q - nN) = q)
theorem ecR_Z {P Q : Pt} (h : ptZ P Q) (q : Nat) : ecR P q = ecR Q q := by
  rcases h with rfl | ⟨h1, h2⟩
  · rfl
  · unfold ecR
    rw [decide_eq_false (fun h => h.1 h1), decide_eq_false (fun h => h.1 h2)]
/-- whether a signature is right -/
def rfR (Gp : Pt) (gs : Nat → Nat) (ns : Nat) (gk : Nat → Nat) (nk h : Nat) : Bool := rykF gk nk && (inN (sgr gs 0) && (inN (sgs gs 0 ns) && ecR (ecQ Gp (beN gk 1, rykY gk nk, 1) (h * (sgs gs 0 ns) ^ (nN - 2) % nN) (sgr gs 0 * (sgs gs 0 ns) ^ (nN - 2) % nN)) (sgr gs 0)))
set_option maxRecDepth 100000 in
set_option maxHeartbeats 3200000 in
theorem c_md_isRight {l : Launch} {G : ks_G} {d : Nat} {S : ks_S} {V : Nat → Value} {R : Nat → Nat} {ys Ns ns yk Nk nk : Nat} {gs gk gm : Nat → Nat} (hO : S.2.2 290 = some (rfE V)) (hC : cvR S R) (hF : rgF S 555 nN muN) (h7 : fX S 306 7) (hE : exW S) (hm : S.2.2 336 = some (kB 32 gm)) (km : kO gm) (hys : S.2.2 ys = some (kB Ns gs)) (kgs : kO gs) (hNs : Ns < 2 ^ 28) (hns : ns ≤ Ns) (hD : sgF gs 0 ns = true) (hyk : S.2.2 yk = some (kB Nk gk)) (kgk : kO gk) (hNk : Nk < 2 ^ 28) (hnk : nk ≤ Nk) (hnk1 : 1 ≤ nk) (hsn : ys < 291 ∨ 336 < ys) (hsr : ys < 547 ∨ 562 < ys) (hkn : yk < 291 ∨ 336 < yk) (hkr : yk < 547 ∨ 554 < yk) : ks_P l G yX16_isRight mX16_isRight (d + 5) [.ref 290, .ref ys, .ref yk, .int (nI nk)] S (fun z S' => z = some (.int (ks_bo (rfR (ptR R 308) gs ns gk nk (beN gm 0)))) ∧ ks_up S S' [552, 553, 554, 560, 561, 562, 312, 313, 314, 316, 317, 318, 320, 321, 322, 323, 324, 325, 326, 327, 328, 329, 330, 331, 332, 333, 334, 335] ∧ (∃ R', cvR S' R' ∧ ∀ k, k < 312 → R' k = R k) ∧ rgF S' 555 nN muN ∧ exW S') := by
  have hd := of_decide_eq_true hD
  simp only [Nat.zero_add] at hd
  obtain ⟨d1, d2, d3, d4, d5, d6, d7, d8⟩ := hd
  have d7' : 1 ≤ gs 3 := (of_decide_eq_true d7).2.1
  have d8' : 1 ≤ ns - 7 - gs 3 := (of_decide_eq_true d8).2.1
  obtain ⟨X0, hX⟩ := hE 329 (by decide) (by decide)
  obtain ⟨Y0, hY⟩ := hE 330 (by decide) (by decide)
  obtain ⟨r0, hr0⟩ := hE 331 (by decide) (by decide)
  obtain ⟨s0, hs0⟩ := hE 332 (by decide) (by decide)
  obtain ⟨h0, hh0⟩ := hE 333 (by decide) (by decide)
  obtain ⟨a0, ha0⟩ := hE 334 (by decide) (by decide)
  obtain ⟨b0, hb0⟩ := hE 335 (by decide) (by decide)
  have er : sgr gs 0 = beW gs 4 (gs 3) := by unfold sgr; rw [Nat.zero_add, Nat.zero_add]
  have es : sgs gs 0 ns = beW gs (6 + gs 3) (gs (5 + gs 3)) := by unfold sgs; rw [Nat.zero_add, Nat.zero_add, d6]
  have ysn : ∀ L : List Nat, (∀ x ∈ L, 291 ≤ x ∧ x ≤ 336 ∨ 547 ≤ x ∧ x ≤ 562) → ys ∉ L := fun L h q => by have := h ys q; omega
  obtain ⟨rr, err⟩ : ∃ v, v = sgr gs 0 := ⟨_, rfl⟩
  obtain ⟨ss, ess⟩ : ∃ v, v = sgs gs 0 ns := ⟨_, rfl⟩
  obtain ⟨si, esi⟩ : ∃ v, v = ss ^ (nN - 2) := ⟨_, rfl⟩
  have eR : rfR (ptR R 308) gs ns gk nk (beN gm 0) = (rykF gk nk && (inN rr && (inN ss && ecR (ecQ (ptR R 308) (beN gk 1, rykY gk nk, 1) (beN gm 0 * si % nN) (rr * si % nN)) rr))) := by
    unfold rfR
    rw [← ess, ← esi, ← err]
  rw [eR]
  clear eR
  rw [← err] at er
  rw [← ess] at es
  refine ks_of (by decide) rfl rfl (Nat.le_of_ble_eq_true rfl) ?_
  show ks_X l G mX16_isRight (d + 5) 0 [(0, .ref 290), (1, .ref ys), (2, .ref yk), (3, .int (nI nk))] [] S _
  refine ks_aload_n dX16_isRight_0 rfl rfl ?_
  refine ks_iconst (x := nI 3) dX16_isRight_1 (by decide) rfl ?_
  refine ks_baldB (i := 3) hys rfl (by omega) (by omega) dX16_isRight_2 rfl ?_
  refine ks_sipush (x := nI 255) dX16_isRight_3 (by decide) rfl ?_
  refine ks_andB (kgs _) dX16_isRight_6 rfl ?_
  have hy6 : gs 3 < 256 := (kgs _)
  refine ks_istore dX16_isRight_7 (by decide) rfl ?_
  refine ks_sub [(4, _), (0, _), (1, _), (2, _), (3, _)] rfl ?_
  refine ks_aload_n dX16_isRight_9 rfl rfl ?_
  refine ks_iconst (x := nI 5) dX16_isRight_10 (by decide) rfl ?_
  refine ks_iload dX16_isRight_11 rfl rfl ?_
  refine ks_addN dX16_isRight_13 rfl ?_
  refine ks_baldB (i := 5 + (gs 3)) hys rfl (by omega) (by omega) dX16_isRight_14 rfl ?_
  refine ks_sipush (x := nI 255) dX16_isRight_15 (by decide) rfl ?_
  refine ks_andB (kgs _) dX16_isRight_18 rfl ?_
  have hy18 : gs (5 + (gs 3)) < 256 := (kgs _)
  refine ks_istore dX16_isRight_19 (by decide) rfl ?_
  refine ks_sub [(5, _), (0, _), (1, _), (2, _), (3, _), (4, _)] rfl ?_
  refine ks_aload_n dX16_isRight_21 rfl rfl ?_
  refine ks_aload_n dX16_isRight_22 rfl rfl ?_
  refine ks_iload_n dX16_isRight_23 rfl rfl ?_
  refine ks_callV (n := 2) (M' := mX16_readKey) (c_md_readKey (d := d + 1) hO hC h7 hX hY hyk kgk hnk hnk1 hNk (by omega) hkr) hO cl_X16 rfl kx_2281 kx_2283 kxp_113 kx_30 kx_2284 (by decide +kernel) rfl (by decide) (Nat.le_of_ble_eq_true rfl) rfl dX16_isRight_24 rfl (fun z1 T1 y1 => ?_)
  obtain ⟨rfl, u1, ⟨R1, c1, k1, p1⟩, ⟨X1, x1⟩, ⟨Y1, w1⟩⟩ := y1
  have o1 := u1.at hO (by decide)
  have F1 := hF.up u1 (by decide)
  have r1 := hr0.up u1 (by decide)
  have s1 := hs0.up u1 (by decide)
  have m1 := u1.at hm (by decide)
  have ys1 := u1.at hys (ysn _ (by decide))
  have E1 : exW T1 := hE.up u1 (fun k hk h1 h2 => by
    have q : ∀ k ∈ ([552, 553, 554, 312, 313, 314, 323, 324, 325, 326, 329, 330] : List Nat), 329 ≤ k → k ≤ 335 → k = 329 ∨ k = 330 := by decide
    rcases q k hk h1 h2 with rfl | rfl
    · exact ⟨_, x1⟩
    · exact ⟨_, w1⟩)
  have U1 : ks_up S T1 [552, 553, 554, 560, 561, 562, 312, 313, 314, 316, 317, 318, 320, 321, 322, 323, 324, 325, 326, 327, 328, 329, 330, 331, 332, 333, 334, 335] := u1.mono (by decide)
  refine ks_if_eqZ (tgt := 64) dX16_isRight_27 (by decide) rfl (fun h1 => ?_) (fun h1 => ?_)
  · refine ks_iconst (x := nI 0) dX16_isRight_64 (by decide) rfl ?_
    refine ks_zret rfl rfl dX16_isRight_65 ?_
    rw [h1, Bool.false_and]
    exact ⟨rfl, U1, ⟨R1, c1, fun k hk => k1 k (by omega) (by omega)⟩, F1, E1⟩
  · rw [h1, Bool.true_and]
    refine ks_aload_n dX16_isRight_30 rfl rfl ?_
    refine ks_aload_n dX16_isRight_31 rfl rfl ?_
    refine ks_iconst (x := nI 4) dX16_isRight_32 (by decide) rfl ?_
    refine ks_iload dX16_isRight_33 rfl rfl ?_
    refine ks_aload_n dX16_isRight_35 rfl rfl ?_
    refine ks_getf (T := TX16) (kf := 30) kx_2398 rfl in_X16 cl_X16 (by decide) o1 rfl dX16_isRight_36 rfl ?_
    refine ks_callV (n := 4) (M' := mX16_part) (c_md_part (d := d + 3) o1 F1 ys1 kgs (by omega) d7' hNs r1 (by decide)) o1 cl_X16 rfl kx_2302 kx_2304 kxp_114 kx_30 kx_2305 (by decide +kernel) rfl (by decide) (Nat.le_of_ble_eq_true rfl) rfl dX16_isRight_39 rfl (fun z2 T2 y2 => ?_)
    obtain ⟨rfl, u2, e2, p2⟩ := y2
    rw [← er] at p2
    rw [← er]
    have o2 := u2.at o1 (by decide)
    have c2 := c1.up u2 (by decide)
    have F2 := F1.up u2 (by decide)
    have s2 := s1.up u2 (by decide)
    have m2 := u2.at m1 (by decide)
    have ys2 := u2.at ys1 (ysn _ (by decide))
    have E2 : exW T2 := E1.t u2 e2 (by decide)
    have U2 : ks_up S T2 [552, 553, 554, 560, 561, 562, 312, 313, 314, 316, 317, 318, 320, 321, 322, 323, 324, 325, 326, 327, 328, 329, 330, 331, 332, 333, 334, 335] := U1.trans (u2.mono (by decide))
    refine ks_if_eqZ (tgt := 64) dX16_isRight_42 (by decide) rfl (fun h2 => ?_) (fun h2 => ?_)
    · refine ks_iconst (x := nI 0) dX16_isRight_64 (by decide) rfl ?_
      refine ks_zret rfl rfl dX16_isRight_65 ?_
      rw [h2, Bool.false_and]
      exact ⟨rfl, U2, ⟨R1, c2, fun k hk => k1 k (by omega) (by omega)⟩, F2, E2⟩
    · rw [h2, Bool.true_and]
      have r2 := p2 h2
      refine ks_aload_n dX16_isRight_45 rfl rfl ?_
      refine ks_aload_n dX16_isRight_46 rfl rfl ?_
      refine ks_bipush (x := nI 6) dX16_isRight_47 (by decide) rfl ?_
      refine ks_iload dX16_isRight_49 rfl rfl ?_
      refine ks_addN dX16_isRight_51 rfl ?_
      refine ks_iload dX16_isRight_52 rfl rfl ?_
      refine ks_aload_n dX16_isRight_54 rfl rfl ?_
      refine ks_getf (T := TX16) (kf := 31) kx_2399 rfl in_X16 cl_X16 (by decide) o2 rfl dX16_isRight_55 rfl ?_
      refine ks_callV (n := 4) (M' := mX16_part) (c_md_part (d := d + 3) (n := gs (5 + gs 3)) o2 F2 ys2 kgs (by omega) (by omega) hNs s2 (by decide)) o2 cl_X16 rfl kx_2302 kx_2304 kxp_114 kx_30 kx_2305 (by decide +kernel) rfl (by decide) (Nat.le_of_ble_eq_true rfl) rfl dX16_isRight_58 rfl (fun z3 T3 y3 => ?_)
      obtain ⟨rfl, u3, e3, p3⟩ := y3
      rw [← es] at p3
      rw [← es]
      have o3 := u3.at o2 (by decide)
      have c3 := c2.up u3 (by decide)
      have F3 := F2.up u3 (by decide)
      have r3 := r2.up u3 (by decide)
      have m3 := u3.at m2 (by decide)
      have E3 : exW T3 := E2.t u3 e3 (by decide)
      have U3 : ks_up S T3 [552, 553, 554, 560, 561, 562, 312, 313, 314, 316, 317, 318, 320, 321, 322, 323, 324, 325, 326, 327, 328, 329, 330, 331, 332, 333, 334, 335] := U2.trans (u3.mono (by decide))
      refine ks_if_neZ (tgt := 66) dX16_isRight_61 (by decide) rfl (fun h3 => ?_) (fun h3 => ?_)
      · rw [h3, Bool.true_and]
        have s3 := p3 h3
        obtain ⟨h03, hh3⟩ := E3 333 (by decide) (by decide)
        refine ks_aload_n dX16_isRight_66 rfl rfl ?_
        refine ks_getf (T := TX16) (kf := 35) kx_2403 rfl in_X16 cl_X16 (by decide) o3 rfl dX16_isRight_67 rfl ?_
        refine ks_iconst (x := nI 0) dX16_isRight_70 (by decide) rfl ?_
        refine ks_iconst (x := nI 1) dX16_isRight_71 (by decide) rfl ?_
        refine ks_aload_n dX16_isRight_72 rfl rfl ?_
        refine ks_getf (T := TX16) (kf := 32) kx_2400 rfl in_X16 cl_X16 (by decide) o3 rfl dX16_isRight_73 rfl ?_
        refine ks_callS (n := 4) (M' := mX16_fromBytes) (c_md_fromH (d := d + 4) m3 km (by decide) (by decide) hh3 (by decide)) kx_2043 kx_2044 kx_30 kx_2045 (by decide +kernel) rfl (by decide) (Nat.le_of_ble_eq_true rfl) rfl dX16_isRight_76 rfl (fun z4 T4 y4 => ?_)
        obtain ⟨rfl, u4, h4⟩ := y4
        rw [fb_be] at h4
        have F4 := F3.up u4 (by decide)
        have o4 := u4.at o3 (by decide)
        have c4 := c3.up u4 (by decide)
        have U4 : ks_up S T4 [552, 553, 554, 560, 561, 562, 312, 313, 314, 316, 317, 318, 320, 321, 322, 323, 324, 325, 326, 327, 328, 329, 330, 331, 332, 333, 334, 335] := U3.trans (u4.mono (by decide))
        have r4 := r3.up u4 (by decide)
        have s4 := s3.up u4 (by decide)
        have E4 : exW T4 := E3.t u4 ⟨_, h4⟩ (by decide)
        have q4 := F4.1.1
        refine ks_aload_n dX16_isRight_79 rfl rfl ?_
        refine ks_getf (T := TX16) (kf := 16) kx_2384 rfl in_X16 cl_X16 (by decide) o4 rfl dX16_isRight_80 rfl ?_
        refine ks_aload_n dX16_isRight_83 rfl rfl ?_
        refine ks_getf (T := TX16) (kf := 31) kx_2399 rfl in_X16 cl_X16 (by decide) o4 rfl dX16_isRight_84 rfl ?_
        refine ks_aload_n dX16_isRight_87 rfl rfl ?_
        refine ks_getf (T := TX16) (kf := 31) kx_2399 rfl in_X16 cl_X16 (by decide) o4 rfl dX16_isRight_88 rfl ?_
        refine ks_callV (n := 2) (M' := mX15_enter) (c_rg_enter (d := d + 2) F4 rN_n s4 s4 (by decide) (by decide)) q4 cl_X15 rfl kx_1917 kx_1918 kx_1919 kx_33 kx_1920 (by decide +kernel) rfl (by decide) (Nat.le_of_ble_eq_true rfl) rfl dX16_isRight_91 rfl (fun z5 T5 y5 => ?_)
        obtain ⟨rfl, u5, F5, s5⟩ := y5
        have o5 := u5.at o4 (by decide)
        have c5 := c4.up u5 (by decide)
        have U5 : ks_up S T5 [552, 553, 554, 560, 561, 562, 312, 313, 314, 316, 317, 318, 320, 321, 322, 323, 324, 325, 326, 327, 328, 329, 330, 331, 332, 333, 334, 335] := U4.trans (u5.mono (by decide))
        have r5 := r4.up u5 (by decide)
        have h5 := h4.up u5 (by decide)
        have E5 : exW T5 := E4.t u5 ⟨_, s5⟩ (by decide)
        have q5 := F5.1.1
        refine ks_aload_n dX16_isRight_94 rfl rfl ?_
        refine ks_getf (T := TX16) (kf := 16) kx_2384 rfl in_X16 cl_X16 (by decide) o5 rfl dX16_isRight_95 rfl ?_
        refine ks_aload_n dX16_isRight_98 rfl rfl ?_
        refine ks_getf (T := TX16) (kf := 31) kx_2399 rfl in_X16 cl_X16 (by decide) o5 rfl dX16_isRight_99 rfl ?_
        refine ks_bipush (x := (-2)) dX16_isRight_102 (by decide) rfl ?_
        refine ks_iconst (x := nI 0) dX16_isRight_104 (by decide) rfl ?_
        refine ks_aload_n dX16_isRight_105 rfl rfl ?_
        refine ks_getf (T := TX16) (kf := 31) kx_2399 rfl in_X16 cl_X16 (by decide) o5 rfl dX16_isRight_106 rfl ?_
        refine ks_callV (n := 4) (M' := mX15_power) (c_rg_powerM (d := d + 2) F5 rN_n (by decide +kernel) s5 s5 (by decide) (by decide)) q5 cl_X15 rfl kx_2290 kx_2291 kx_2292 kx_33 kx_2293 (by decide +kernel) rfl (by decide) (Nat.le_of_ble_eq_true rfl) rfl dX16_isRight_109 rfl (fun z6 T6 y6 => ?_)
        obtain ⟨rfl, u6, F6, s6⟩ := y6
        rw [Nat.pow_zero, Nat.div_one, ← esi] at s6
        have o6 := u6.at o5 (by decide)
        have c6 := c5.up u6 (by decide)
        have U6 : ks_up S T6 [552, 553, 554, 560, 561, 562, 312, 313, 314, 316, 317, 318, 320, 321, 322, 323, 324, 325, 326, 327, 328, 329, 330, 331, 332, 333, 334, 335] := U5.trans (u6.mono (by decide))
        have r6 := r5.up u6 (by decide)
        have h6 := h5.up u6 (by decide)
        have E6 : exW T6 := E5.t u6 ⟨_, s6⟩ (by decide)
        have q6 := F6.1.1
        obtain ⟨a06, ha6⟩ := E6 334 (by decide) (by decide)
        refine ks_aload_n dX16_isRight_112 rfl rfl ?_
        refine ks_getf (T := TX16) (kf := 16) kx_2384 rfl in_X16 cl_X16 (by decide) o6 rfl dX16_isRight_113 rfl ?_
        refine ks_aload_n dX16_isRight_116 rfl rfl ?_
        refine ks_getf (T := TX16) (kf := 32) kx_2400 rfl in_X16 cl_X16 (by decide) o6 rfl dX16_isRight_117 rfl ?_
        refine ks_aload_n dX16_isRight_120 rfl rfl ?_
        refine ks_getf (T := TX16) (kf := 33) kx_2401 rfl in_X16 cl_X16 (by decide) o6 rfl dX16_isRight_121 rfl ?_
        refine ks_callV (n := 2) (M' := mX15_enter) (c_rg_enter (d := d + 2) F6 rN_n h6 ha6 (by decide) (by decide)) q6 cl_X15 rfl kx_1917 kx_1918 kx_1919 kx_33 kx_1920 (by decide +kernel) rfl (by decide) (Nat.le_of_ble_eq_true rfl) rfl dX16_isRight_124 rfl (fun z7 T7 y7 => ?_)
        obtain ⟨rfl, u7, F7, a7⟩ := y7
        have o7 := u7.at o6 (by decide)
        have c7 := c6.up u7 (by decide)
        have U7 : ks_up S T7 [552, 553, 554, 560, 561, 562, 312, 313, 314, 316, 317, 318, 320, 321, 322, 323, 324, 325, 326, 327, 328, 329, 330, 331, 332, 333, 334, 335] := U6.trans (u7.mono (by decide))
        have r7 := r6.up u7 (by decide)
        have s7 := s6.up u7 (by decide)
        have E7 : exW T7 := E6.t u7 ⟨_, a7⟩ (by decide)
        have q7 := F7.1.1
        refine ks_aload_n dX16_isRight_127 rfl rfl ?_
        refine ks_getf (T := TX16) (kf := 16) kx_2384 rfl in_X16 cl_X16 (by decide) o7 rfl dX16_isRight_128 rfl ?_
        refine ks_aload_n dX16_isRight_131 rfl rfl ?_
        refine ks_getf (T := TX16) (kf := 33) kx_2401 rfl in_X16 cl_X16 (by decide) o7 rfl dX16_isRight_132 rfl ?_
        refine ks_aload_n dX16_isRight_135 rfl rfl ?_
        refine ks_getf (T := TX16) (kf := 31) kx_2399 rfl in_X16 cl_X16 (by decide) o7 rfl dX16_isRight_136 rfl ?_
        refine ks_aload_n dX16_isRight_139 rfl rfl ?_
        refine ks_getf (T := TX16) (kf := 33) kx_2401 rfl in_X16 cl_X16 (by decide) o7 rfl dX16_isRight_140 rfl ?_
        refine ks_callV (n := 3) (M' := mX15_multiply) (c_rg_mulF (d := d + 3) F7 rN_n a7 s7 a7 (by decide) (by decide) (by decide) (Nat.mod_lt _ (by decide))) q7 cl_X15 rfl kx_2285 kx_1922 kx_1923 kx_33 kx_1924 (by decide +kernel) rfl (by decide) (Nat.le_of_ble_eq_true rfl) rfl dX16_isRight_143 rfl (fun z8 T8 y8 => ?_)
        obtain ⟨rfl, u8, F8, a8⟩ := y8
        rw [mont_mul rN_n.2.1] at a8
        have o8 := u8.at o7 (by decide)
        have c8 := c7.up u8 (by decide)
        have U8 : ks_up S T8 [552, 553, 554, 560, 561, 562, 312, 313, 314, 316, 317, 318, 320, 321, 322, 323, 324, 325, 326, 327, 328, 329, 330, 331, 332, 333, 334, 335] := U7.trans (u8.mono (by decide))
        have r8 := r7.up u8 (by decide)
        have s8 := s7.up u8 (by decide)
        have E8 : exW T8 := E7.t u8 ⟨_, a8⟩ (by decide)
        have q8 := F8.1.1
        refine ks_aload_n dX16_isRight_146 rfl rfl ?_
        refine ks_getf (T := TX16) (kf := 16) kx_2384 rfl in_X16 cl_X16 (by decide) o8 rfl dX16_isRight_147 rfl ?_
        refine ks_aload_n dX16_isRight_150 rfl rfl ?_
        refine ks_getf (T := TX16) (kf := 33) kx_2401 rfl in_X16 cl_X16 (by decide) o8 rfl dX16_isRight_151 rfl ?_
        refine ks_aload_n dX16_isRight_154 rfl rfl ?_
        refine ks_getf (T := TX16) (kf := 33) kx_2401 rfl in_X16 cl_X16 (by decide) o8 rfl dX16_isRight_155 rfl ?_
        refine ks_callV (n := 2) (M' := mX15_leave) (c_rg_leave (d := d + 2) F8 rN_n a8 a8 (by decide) (by decide)) q8 cl_X15 rfl kx_2294 kx_2295 kx_2296 kx_33 kx_2297 (by decide +kernel) rfl (by decide) (Nat.le_of_ble_eq_true rfl) rfl dX16_isRight_158 rfl (fun z9 T9 y9 => ?_)
        obtain ⟨rfl, u9, F9, a9⟩ := y9
        rw [mont_out rN_n.2.1] at a9
        have o9 := u9.at o8 (by decide)
        have c9 := c8.up u9 (by decide)
        have U9 : ks_up S T9 [552, 553, 554, 560, 561, 562, 312, 313, 314, 316, 317, 318, 320, 321, 322, 323, 324, 325, 326, 327, 328, 329, 330, 331, 332, 333, 334, 335] := U8.trans (u9.mono (by decide))
        have r9 := r8.up u9 (by decide)
        have s9 := s8.up u9 (by decide)
        have E9 : exW T9 := E8.t u9 ⟨_, a9⟩ (by decide)
        have q9 := F9.1.1
        obtain ⟨b09, hb9⟩ := E9 335 (by decide) (by decide)
        refine ks_aload_n dX16_isRight_161 rfl rfl ?_
        refine ks_getf (T := TX16) (kf := 16) kx_2384 rfl in_X16 cl_X16 (by decide) o9 rfl dX16_isRight_162 rfl ?_
        refine ks_aload_n dX16_isRight_165 rfl rfl ?_
        refine ks_getf (T := TX16) (kf := 30) kx_2398 rfl in_X16 cl_X16 (by decide) o9 rfl dX16_isRight_166 rfl ?_
        refine ks_aload_n dX16_isRight_169 rfl rfl ?_
        refine ks_getf (T := TX16) (kf := 34) kx_2402 rfl in_X16 cl_X16 (by decide) o9 rfl dX16_isRight_170 rfl ?_
        refine ks_callV (n := 2) (M' := mX15_enter) (c_rg_enter (d := d + 2) F9 rN_n r9 hb9 (by decide) (by decide)) q9 cl_X15 rfl kx_1917 kx_1918 kx_1919 kx_33 kx_1920 (by decide +kernel) rfl (by decide) (Nat.le_of_ble_eq_true rfl) rfl dX16_isRight_173 rfl (fun z10 T10 y10 => ?_)
        obtain ⟨rfl, u10, F10, b10⟩ := y10
        have o10 := u10.at o9 (by decide)
        have c10 := c9.up u10 (by decide)
        have U10 : ks_up S T10 [552, 553, 554, 560, 561, 562, 312, 313, 314, 316, 317, 318, 320, 321, 322, 323, 324, 325, 326, 327, 328, 329, 330, 331, 332, 333, 334, 335] := U9.trans (u10.mono (by decide))
        have r10 := r9.up u10 (by decide)
        have s10 := s9.up u10 (by decide)
        have a10 := a9.up u10 (by decide)
        have E10 : exW T10 := E9.t u10 ⟨_, b10⟩ (by decide)
        have q10 := F10.1.1
        refine ks_aload_n dX16_isRight_176 rfl rfl ?_
        refine ks_getf (T := TX16) (kf := 16) kx_2384 rfl in_X16 cl_X16 (by decide) o10 rfl dX16_isRight_177 rfl ?_
        refine ks_aload_n dX16_isRight_180 rfl rfl ?_
        refine ks_getf (T := TX16) (kf := 34) kx_2402 rfl in_X16 cl_X16 (by decide) o10 rfl dX16_isRight_181 rfl ?_
        refine ks_aload_n dX16_isRight_184 rfl rfl ?_
        refine ks_getf (T := TX16) (kf := 31) kx_2399 rfl in_X16 cl_X16 (by decide) o10 rfl dX16_isRight_185 rfl ?_
        refine ks_aload_n dX16_isRight_188 rfl rfl ?_
        refine ks_getf (T := TX16) (kf := 34) kx_2402 rfl in_X16 cl_X16 (by decide) o10 rfl dX16_isRight_189 rfl ?_
        refine ks_callV (n := 3) (M' := mX15_multiply) (c_rg_mulF (d := d + 3) F10 rN_n b10 s10 b10 (by decide) (by decide) (by decide) (Nat.mod_lt _ (by decide))) q10 cl_X15 rfl kx_2285 kx_1922 kx_1923 kx_33 kx_1924 (by decide +kernel) rfl (by decide) (Nat.le_of_ble_eq_true rfl) rfl dX16_isRight_192 rfl (fun z11 T11 y11 => ?_)
        obtain ⟨rfl, u11, F11, b11⟩ := y11
        rw [mont_mul rN_n.2.1] at b11
        have o11 := u11.at o10 (by decide)
        have c11 := c10.up u11 (by decide)
        have U11 : ks_up S T11 [552, 553, 554, 560, 561, 562, 312, 313, 314, 316, 317, 318, 320, 321, 322, 323, 324, 325, 326, 327, 328, 329, 330, 331, 332, 333, 334, 335] := U10.trans (u11.mono (by decide))
        have r11 := r10.up u11 (by decide)
        have a11 := a10.up u11 (by decide)
        have E11 : exW T11 := E10.t u11 ⟨_, b11⟩ (by decide)
        have q11 := F11.1.1
        refine ks_aload_n dX16_isRight_195 rfl rfl ?_
        refine ks_getf (T := TX16) (kf := 16) kx_2384 rfl in_X16 cl_X16 (by decide) o11 rfl dX16_isRight_196 rfl ?_
        refine ks_aload_n dX16_isRight_199 rfl rfl ?_
        refine ks_getf (T := TX16) (kf := 34) kx_2402 rfl in_X16 cl_X16 (by decide) o11 rfl dX16_isRight_200 rfl ?_
        refine ks_aload_n dX16_isRight_203 rfl rfl ?_
        refine ks_getf (T := TX16) (kf := 34) kx_2402 rfl in_X16 cl_X16 (by decide) o11 rfl dX16_isRight_204 rfl ?_
        refine ks_callV (n := 2) (M' := mX15_leave) (c_rg_leave (d := d + 2) F11 rN_n b11 b11 (by decide) (by decide)) q11 cl_X15 rfl kx_2294 kx_2295 kx_2296 kx_33 kx_2297 (by decide +kernel) rfl (by decide) (Nat.le_of_ble_eq_true rfl) rfl dX16_isRight_207 rfl (fun z12 T12 y12 => ?_)
        obtain ⟨rfl, u12, F12, b12⟩ := y12
        rw [mont_out rN_n.2.1] at b12
        have o12 := u12.at o11 (by decide)
        have c12 := c11.up u12 (by decide)
        have U12 : ks_up S T12 [552, 553, 554, 560, 561, 562, 312, 313, 314, 316, 317, 318, 320, 321, 322, 323, 324, 325, 326, 327, 328, 329, 330, 331, 332, 333, 334, 335] := U11.trans (u12.mono (by decide))
        have r12 := r11.up u12 (by decide)
        have a12 := a11.up u12 (by decide)
        have E12 : exW T12 := E11.t u12 ⟨_, b12⟩ (by decide)
        have q12 := F12.1.1
        refine ks_aload_n dX16_isRight_210 rfl rfl ?_
        refine ks_aload_n dX16_isRight_211 rfl rfl ?_
        refine ks_getf (T := TX16) (kf := 33) kx_2401 rfl in_X16 cl_X16 (by decide) o12 rfl dX16_isRight_212 rfl ?_
        refine ks_aload_n dX16_isRight_215 rfl rfl ?_
        refine ks_getf (T := TX16) (kf := 18) kx_2386 rfl in_X16 cl_X16 (by decide) o12 rfl dX16_isRight_216 rfl ?_
        refine ks_aload_n dX16_isRight_219 rfl rfl ?_
        refine ks_getf (T := TX16) (kf := 20) kx_2388 rfl in_X16 cl_X16 (by decide) o12 rfl dX16_isRight_220 rfl ?_
        refine ks_callV (n := 3) (M' := mX16_times_) (c_md_times307 (d := d) o12 c12 a12 (by decide)) o12 cl_X16 rfl kx_2309 kx_2311 kxp_115 kx_30 kx_2312 (by decide +kernel) rfl (by decide) (Nat.le_of_ble_eq_true rfl) rfl dX16_isRight_223 rfl (fun z13 T13 y13 => ?_)
        obtain ⟨rfl, u13, R13, c13, e13, k13⟩ := y13
        have F13 := F12.up u13 (by decide)
        have E13 : exW T13 := E12.k u13 (by decide)
        have o13 := u13.at o12 (by decide)
        have U13 : ks_up S T13 [552, 553, 554, 560, 561, 562, 312, 313, 314, 316, 317, 318, 320, 321, 322, 323, 324, 325, 326, 327, 328, 329, 330, 331, 332, 333, 334, 335] := U12.trans (u13.mono (by decide))
        have r13 := r12.up u13 (by decide)
        have b13 := b12.up u13 (by decide)
        have q13 := F13.1.1
        refine ks_aload_n dX16_isRight_226 rfl rfl ?_
        refine ks_aload_n dX16_isRight_227 rfl rfl ?_
        refine ks_getf (T := TX16) (kf := 34) kx_2402 rfl in_X16 cl_X16 (by decide) o13 rfl dX16_isRight_228 rfl ?_
        refine ks_aload_n dX16_isRight_231 rfl rfl ?_
        refine ks_getf (T := TX16) (kf := 19) kx_2387 rfl in_X16 cl_X16 (by decide) o13 rfl dX16_isRight_232 rfl ?_
        refine ks_aload_n dX16_isRight_235 rfl rfl ?_
        refine ks_getf (T := TX16) (kf := 21) kx_2389 rfl in_X16 cl_X16 (by decide) o13 rfl dX16_isRight_236 rfl ?_
        refine ks_callV (n := 3) (M' := mX16_times_) (c_md_times311 (d := d) o13 c13 b13 (by decide)) o13 cl_X16 rfl kx_2309 kx_2311 kxp_115 kx_30 kx_2312 (by decide +kernel) rfl (by decide) (Nat.le_of_ble_eq_true rfl) rfl dX16_isRight_239 rfl (fun z14 T14 y14 => ?_)
        obtain ⟨rfl, u14, R14, c14, e14, k14⟩ := y14
        have F14 := F13.up u14 (by decide)
        have E14 : exW T14 := E13.k u14 (by decide)
        have o14 := u14.at o13 (by decide)
        have U14 : ks_up S T14 [552, 553, 554, 560, 561, 562, 312, 313, 314, 316, 317, 318, 320, 321, 322, 323, 324, 325, 326, 327, 328, 329, 330, 331, 332, 333, 334, 335] := U13.trans (u14.mono (by decide))
        have r14 := r13.up u14 (by decide)
        have q14 := F14.1.1
        refine ks_aload_n dX16_isRight_242 rfl rfl ?_
        refine ks_aload_n dX16_isRight_243 rfl rfl ?_
        refine ks_getf (T := TX16) (kf := 20) kx_2388 rfl in_X16 cl_X16 (by decide) o14 rfl dX16_isRight_244 rfl ?_
        refine ks_aload_n dX16_isRight_247 rfl rfl ?_
        refine ks_getf (T := TX16) (kf := 21) kx_2389 rfl in_X16 cl_X16 (by decide) o14 rfl dX16_isRight_248 rfl ?_
        refine ks_callV (n := 2) (M' := mX16_plus) (c_md_plus319 (d := d + 1) o14 c14) o14 cl_X16 rfl kx_2317 kx_2319 kxp_117 kx_30 kx_2320 (by decide +kernel) rfl (by decide) (Nat.le_of_ble_eq_true rfl) rfl dX16_isRight_251 rfl (fun z15 T15 y15 => ?_)
        obtain ⟨rfl, u15, R15, c15, e15, k15⟩ := y15
        have F15 := F14.up u15 (by decide)
        have E15 : exW T15 := E14.k u15 (by decide)
        have o15 := u15.at o14 (by decide)
        have U15 : ks_up S T15 [552, 553, 554, 560, 561, 562, 312, 313, 314, 316, 317, 318, 320, 321, 322, 323, 324, 325, 326, 327, 328, 329, 330, 331, 332, 333, 334, 335] := U14.trans (u15.mono (by decide))
        have r15 := r14.up u15 (by decide)
        have q15 := F15.1.1
        have gR1 : ptR R1 308 = ptR R 308 := Prod.ext (k1 _ (by decide) (by decide)) (Prod.ext (k1 _ (by decide) (by decide)) (k1 _ (by decide) (by decide)))
        have gK : ptR R13 312 = (beN gk 1, rykY gk nk, 1) := (Prod.ext (k13 _ (by decide) (by decide)) (Prod.ext (k13 _ (by decide) (by decide)) (k13 _ (by decide) (by decide))) : ptR R13 312 = ptR R1 312).trans (p1 h1)
        have gS : ptR R14 316 = ptR R13 316 := Prod.ext (k14 _ (by decide) (by decide)) (Prod.ext (k14 _ (by decide) (by decide)) (k14 _ (by decide) (by decide)))
        have hZ : ptZ (ptR R15 316) (ecQ (ptR R 308) (beN gk 1, rykY gk nk, 1) (beN gm 0 * si % nN) (rr * si % nN)) := by
          rw [e15, gS, e13, e14, gR1, gK]
          exact ptZ.A (ptZ.L (Or.inr ⟨rfl, rfl⟩)) (ptZ.L (Or.inr ⟨rfl, rfl⟩))
        rw [← ecR_Z hZ]
        have k9 : ∀ k, k < 312 → R15 k = R k := fun k hk => (k15 k (by omega) (by omega)).trans ((k14 k (by omega) (by omega)).trans ((k13 k (by omega) (by omega)).trans (k1 k (by omega) (by omega))))
        have p15 : T15.2.2 315 = some (.inr (17, [.ref 316, .ref 317, .ref 318])) := c15.2.2.2.2.1
        clear e13 e14 e15 hZ gS gK gR1
        refine ks_aload_n dX16_isRight_254 rfl rfl ?_
        refine ks_getf (T := TX16) (kf := 20) kx_2388 rfl in_X16 cl_X16 (by decide) o15 rfl dX16_isRight_255 rfl ?_
        refine ks_getN (T := TX14) (kf := 2) kx_1797 rfl in_X14 cl_X14 (by decide) p15 rfl dX16_isRight_258 rfl ?_
        refine ks_callS (n := 1) (M' := mX15_isZero) (c_fz (d := d + 4) (a := 318) c15 (by decide)) kx_2306 kx_2307 kx_33 kx_2308 (by decide +kernel) rfl (by decide) (Nat.le_of_ble_eq_true rfl) rfl dX16_isRight_261 rfl (fun za Ta ya => ?_)
        obtain ⟨rfl, hTa⟩ := ya
        obtain rfl := hTa.symm
        refine ks_if_eqZ (tgt := 269) dX16_isRight_264 (by decide) rfl (fun h4b => ?_) (fun h4b => ?_)
        · have z0 : ¬ R15 318 = 0 := of_decide_eq_false h4b
          obtain ⟨x15, hx15⟩ := E15 329 (by decide) (by decide)
          obtain ⟨y15, hy15⟩ := E15 330 (by decide) (by decide)
          refine ks_aload_n dX16_isRight_269 rfl rfl ?_
          refine ks_aload_n dX16_isRight_270 rfl rfl ?_
          refine ks_getf (T := TX16) (kf := 20) kx_2388 rfl in_X16 cl_X16 (by decide) o15 rfl dX16_isRight_271 rfl ?_
          refine ks_aload_n dX16_isRight_274 rfl rfl ?_
          refine ks_getf (T := TX16) (kf := 28) kx_2396 rfl in_X16 cl_X16 (by decide) o15 rfl dX16_isRight_275 rfl ?_
          refine ks_aload_n dX16_isRight_278 rfl rfl ?_
          refine ks_getf (T := TX16) (kf := 29) kx_2397 rfl in_X16 cl_X16 (by decide) o15 rfl dX16_isRight_279 rfl ?_
          refine ks_callV (n := 3) (M' := mX16_flat) (c_md_flat (d := d + 1) o15 c15 hx15 hy15) o15 cl_X16 rfl kx_2326 kx_2328 kxp_118 kx_30 kx_2329 (by decide +kernel) rfl (by decide) (Nat.le_of_ble_eq_true rfl) rfl dX16_isRight_282 rfl (fun z16 T16 y16 => ?_)
          obtain ⟨rfl, u16, R16, c16, k16, x16, w16⟩ := y16
          have F16 := F15.up u16 (by decide)
          have E16 : exW T16 := E15.up u16 (fun k hk h1 h2 => by
            have q : ∀ k ∈ ([552, 553, 554, 323, 324, 329, 330] : List Nat), 329 ≤ k → k ≤ 335 → k = 329 ∨ k = 330 := by decide
            rcases q k hk h1 h2 with rfl | rfl
            · exact ⟨_, x16⟩
            · exact ⟨_, w16⟩)
          have o16 := u16.at o15 (by decide)
          have U16 : ks_up S T16 [552, 553, 554, 560, 561, 562, 312, 313, 314, 316, 317, 318, 320, 321, 322, 323, 324, 325, 326, 327, 328, 329, 330, 331, 332, 333, 334, 335] := U15.trans (u16.mono (by decide))
          have r16 := r15.up u16 (by decide)
          have q16 := F16.1.1
          obtain ⟨XX, eXX⟩ : ∃ v, v = ecX (ptR R15 316) := ⟨_, rfl⟩
          have x16 : wA T16 329 XX := eXX ▸ x16
          have ef : ecR (ptR R15 316) rr = decide ((if XX < nN then XX else XX - nN) = rr) := by
            unfold ecR
            rw [← eXX]
            exact decide_eq_decide.mpr ⟨fun h => h.2, fun h => ⟨z0, h⟩⟩
          rw [ef]
          have K9 : ∀ k, k < 312 → R16 k = R k := fun k hk => (k16 k (by omega)).trans (k9 k hk)
          refine ks_aload_n dX16_isRight_285 rfl rfl ?_
          refine ks_getf (T := TX16) (kf := 28) kx_2396 rfl in_X16 cl_X16 (by decide) o16 rfl dX16_isRight_286 rfl ?_
          refine ks_aload_n dX16_isRight_289 rfl rfl ?_
          refine ks_getf (T := TX16) (kf := 16) kx_2384 rfl in_X16 cl_X16 (by decide) o16 rfl dX16_isRight_290 rfl ?_
          refine ks_getN (T := TX15) (kf := 0) kx_1879 rfl in_X15 cl_X15 (by decide) q16 rfl dX16_isRight_293 rfl ?_
          refine ks_callS (n := 2) (M' := mX15_compare) (c_rg_compare (d := d + 4) x16 F16.1.2.1 (by decide) (by decide)) kx_2035 kx_1870 kx_33 kx_1871 (by decide +kernel) rfl (by decide) (Nat.le_of_ble_eq_true rfl) rfl dX16_isRight_296 rfl (fun zb Tb yb => ?_)
          obtain ⟨rfl, hTb⟩ := yb
          obtain rfl := hTb.symm
          refine ks_if_lt (tgt := 321) dX16_isRight_299 (by decide) rfl (fun h5 => ?_) (fun h5 => ?_)
          · have hl : XX < nN := cmpN_lt.mp h5
            rw [if_pos hl]
            refine ks_aload_n dX16_isRight_321 rfl rfl ?_
            refine ks_getf (T := TX16) (kf := 28) kx_2396 rfl in_X16 cl_X16 (by decide) o16 rfl dX16_isRight_322 rfl ?_
            refine ks_aload_n dX16_isRight_325 rfl rfl ?_
            refine ks_getf (T := TX16) (kf := 30) kx_2398 rfl in_X16 cl_X16 (by decide) o16 rfl dX16_isRight_326 rfl ?_
            refine ks_callS (n := 2) (M' := mX15_same) (c_rg_same (d := d + 3) x16 r16 (by decide) (by decide)) kx_2287 kx_2288 kx_33 kx_2289 (by decide +kernel) rfl (by decide) (Nat.le_of_ble_eq_true rfl) rfl dX16_isRight_329 rfl (fun zc Tc yc => ?_)
            obtain ⟨rfl, hTc⟩ := yc
            obtain rfl := hTc.symm
            refine ks_zret rfl (ks_bo_z _) dX16_isRight_332 ?_
            exact ⟨rfl, U16, ⟨R16, c16, K9⟩, F16, E16⟩
          · have hl : ¬ XX < nN := fun h => h5 (cmpN_lt.mpr h)
            rw [if_neg hl]
            refine ks_aload_n dX16_isRight_302 rfl rfl ?_
            refine ks_getf (T := TX16) (kf := 28) kx_2396 rfl in_X16 cl_X16 (by decide) o16 rfl dX16_isRight_303 rfl ?_
            refine ks_aload_n dX16_isRight_306 rfl rfl ?_
            refine ks_getf (T := TX16) (kf := 16) kx_2384 rfl in_X16 cl_X16 (by decide) o16 rfl dX16_isRight_307 rfl ?_
            refine ks_getN (T := TX15) (kf := 0) kx_1879 rfl in_X15 cl_X15 (by decide) q16 rfl dX16_isRight_310 rfl ?_
            refine ks_aload_n dX16_isRight_313 rfl rfl ?_
            refine ks_getf (T := TX16) (kf := 28) kx_2396 rfl in_X16 cl_X16 (by decide) o16 rfl dX16_isRight_314 rfl ?_
            refine ks_callS (n := 3) (M' := mX15_less) (c_rg_less (d := d + 4) x16 F16.1.2.1 x16 (by decide)) kx_2117 kx_1873 kx_33 kx_1874 (by decide +kernel) rfl (by decide) (Nat.le_of_ble_eq_true rfl) rfl dX16_isRight_317 rfl (fun z17 T17 y17 => ?_)
            obtain ⟨rfl, u17, x17⟩ := y17
            have hxl := x16.lt
            rw [show (XX + 2 ^ 256 - nN) % 2 ^ 256 = XX - nN by rw [show XX + 2 ^ 256 - nN = XX - nN + 2 ^ 256 by omega, Nat.add_mod_right, Nat.mod_eq_of_lt (by omega)]] at x17
            refine ks_pop2_2 dX16_isRight_320 rfl rfl ?_
            have o17 := u17.at o16 (by decide)
            have r17 := r16.up u17 (by decide)
            refine ks_aload_n dX16_isRight_321 rfl rfl ?_
            refine ks_getf (T := TX16) (kf := 28) kx_2396 rfl in_X16 cl_X16 (by decide) o17 rfl dX16_isRight_322 rfl ?_
            refine ks_aload_n dX16_isRight_325 rfl rfl ?_
            refine ks_getf (T := TX16) (kf := 30) kx_2398 rfl in_X16 cl_X16 (by decide) o17 rfl dX16_isRight_326 rfl ?_
            refine ks_callS (n := 2) (M' := mX15_same) (c_rg_same (d := d + 3) x17 r17 (by decide) (by decide)) kx_2287 kx_2288 kx_33 kx_2289 (by decide +kernel) rfl (by decide) (Nat.le_of_ble_eq_true rfl) rfl dX16_isRight_329 rfl (fun zc Tc yc => ?_)
            obtain ⟨rfl, hTc⟩ := yc
            obtain rfl := hTc.symm
            refine ks_zret rfl (ks_bo_z _) dX16_isRight_332 ?_
            exact ⟨rfl, U16.trans (u17.mono (by decide)), ⟨R16, c16.up u17 (by decide), K9⟩, F16.up u17 (by decide), E16.t u17 ⟨_, x17⟩ (by decide)⟩
        · refine ks_iconst (x := nI 0) dX16_isRight_267 (by decide) rfl ?_
          refine ks_zret rfl rfl dX16_isRight_268 ?_
          have z0 : R15 318 = 0 := of_decide_eq_true h4b
          have ef : ecR (ptR R15 316) rr = false := decide_eq_false (fun h => h.1 z0)
          rw [ef]
          exact ⟨rfl, U15, ⟨R15, c15, k9⟩, F15, E15⟩
      · refine ks_iconst (x := nI 0) dX16_isRight_64 (by decide) rfl ?_
        refine ks_zret rfl rfl dX16_isRight_65 ?_
        rw [h3, Bool.false_and]
        exact ⟨rfl, U3, ⟨R1, c3, fun k hk => k1 k (by omega) (by omega)⟩, F3, E3⟩
