/-! MACHINE: unlocks -/
def rnW (GD : List Nat → List Nat → List Nat → Bool) (LK : Int → Bool) (c : List Nat) (xs : List (List Nat)) : Option (List (List Nat) × List (List Nat)) := rnS GD LK c.length c c 0 xs [] []
def p2sh (k : List Nat) : Bool := decide (k.length = 23 ∧ k.getD 0 0 = 169 ∧ k.getD 1 0 = 20 ∧ k.getD 22 0 = 135)
/-- whether an input's script unlocks an output's -/
def ulS (GD : List Nat → List Nat → List Nat → Bool) (LK : Int → Bool) (si k : List Nat) : Bool :=
  match rnW GD LK si [] with
  | none => false
  | some q => if p2sh k = true ∧ (q.1 = [] ∨ psh_ si = false) then false else
    match rnW GD LK k q.1 with
    | none => false
    | some r => if topTr r.1 = false then false else if p2sh k = false then true else
      match rnW GD LK (q.1.getD 0 []) (r.1.drop 1) with
      | none => false
      | some t => topTr t.1
theorem numI_l9 : ∀ op : Nat, op < 97 → (numI ((op : Int) - 80)).length ≤ 8 := by decide +kernel
theorem numI_len {op : Nat} (h : op ≤ 96) : (numI ((op : Int) - 80)).length ≤ 8 := numI_l9 op (by omega)
/-- pushes alone leave short elements -/
theorem rn_psh (GD : List Nat → List Nat → List Nat → Bool) (LK : Int → Bool) : ∀ (f : Nat) (c bg : List Nat) (ops : Nat) (xs ys : List (List Nat)) (q : List (List Nat) × List (List Nat)), pshN f c = true → rnS GD LK f c bg ops xs ys [] = some q → (∀ x ∈ xs, x.length ≤ 520) → ∀ x ∈ q.1, x.length ≤ 520
  | f, [], bg, ops, xs, ys, q, _, h, hx => by
    rw [rnS_nil, if_pos rfl] at h
    cases h
    exact hx
  | 0, a :: t, bg, ops, xs, ys, q, _, h, hx => by cases h
  | f + 1, a :: t, bg, ops, xs, ys, q, hp, h, hx => by
    rw [pshN, if_neg (by simp)] at hp
    rw [rnS] at h
    split at hp
    · cases hp
    · next ha =>
      have ha : ¬ 96 < a := ha
      cases hk : afL (a :: t) with
      | none => rw [hk] at hp; cases hp
      | some k =>
        rw [hk] at hp h
        simp only [] at hp h
        split at h
        · next hal =>
          rw [if_neg (by omega), if_pos (show clN [] = 0 from rfl)] at h
          by_cases c78 : a ≤ 78
          · rw [if_pos c78] at h
            simp only [] at h
            split at h
            · cases h
            · refine rn_psh GD LK f _ _ _ _ _ q hp h ?_
              intro x hxm
              rcases List.mem_cons.mp hxm with e | e
              · rw [e, List.length_drop, List.length_take]
                unfold alwO at hal
                rw [if_pos c78] at hal
                have := of_decide_eq_true hal
                omega
              · exact hx x e
          · rw [if_neg c78, if_neg (by omega), if_neg (by omega)] at h
            cases hpf : pfS LK a xs ys with
            | none => rw [hpf] at h; cases h
            | some p =>
              rw [hpf] at h
              simp only [] at h
              split at h
              · cases h
              · refine rn_psh GD LK f _ _ _ _ _ q hp h ?_
                unfold pfS at hpf
                by_cases c79 : a = 79 ∨ (81 ≤ a ∧ a ≤ 96)
                · rw [if_pos c79] at hpf
                  cases hpf
                  intro x hxm
                  rcases List.mem_cons.mp hxm with e | e
                  · rw [e]; have := numI_len (op := a) (by omega); omega
                  · exact hx x e
                · rw [if_neg c79, if_neg (by omega), if_neg (by omega), if_neg (by omega), if_neg (by omega), if_neg (by omega), if_neg (by omega), if_neg (by omega), if_neg (by omega), if_neg (by omega)] at hpf
                  cases hpf
        · cases h
/-- the machine as it stands between calls -/
def mcZ (S : ks_S) : Prop := mcW S ∧ (∃ xs ys u, st_ok S xs ys u) ∧ (∃ dn, S.2.2 36 = some (kZ 202 dn)) ∧ ∃ vw ji vc j1 j2 j3 j4 j5 j6 i1 i2 i3 i4, S.2.2 27 = some (.inr (10, [.ref 28, .ref 7, .ref 14, .ref 29, .ref 36, .ref 37, .ref 39, vw, .int ji, vc, .int j1, .int j2, .int j3, .int j4, .int j5, .int j6, .int i1, .int i2, .int i3, .int i4]))
theorem rnF.z {S S1 : ks_S} {inp : Nat} (h : rnF S S1 inp) : mcZ S1 := by
  obtain ⟨h1, h2, h3, h4, vc, j1, j2, j3, j4, j5, j6, i1, i2, i3, i4, h5⟩ := h
  exact ⟨h2, h3, h4, _, _, _, _, _, _, _, _, _, _, _, _, _, h5⟩
theorem rnO.f {S S1 : ks_S} {inp u0 b : Nat} {r : Option (List (List Nat) × List (List Nat))} {z : Option Value} (h : rnO S inp u0 b r z S1) : z = some (.int (ks_bo r.isSome)) ∧ rnF S S1 inp := by
  cases r with
  | none => exact h
  | some q => exact ⟨h.1, h.2.1⟩
set_option maxRecDepth 100000 in
set_option maxHeartbeats 800000 in
theorem c_mc_unlocks {l : Launch} {G : ks_G} {d : Nat} {S : ks_S} {inp : Nat} {y9 N9 L9 b9 k9 p9 m9 u9 e9 : Nat} {g9 : Nat → Nat} (hma : mathOK) (hZ : mcZ S) (hV : tv_ok S y9 g9 L9 b9 k9 p9 m9 u9 e9) (hy9 : S.2.2 y9 = some (kB N9 g9)) (hg9 : kO g9) (hL9 : L9 ≤ N9) (hN9 : N9 < 2 ^ 18) (hL16 : L9 ≤ 1600) (hi9 : inp < k9) (hyn : 56 ≤ y9) (hK : ks_stOK S) {ly Nl lf ln : Nat} {gl : Nat → Nat} (hly : S.2.2 ly = some (kB Nl gl)) (hgl : kO gl) (hNl : Nl < 2 ^ 20) (hlf : lf + ln ≤ Nl) (hln : ln ≤ 1600) (hlyn : 56 ≤ ly) : ks_P l G yX7_unlocks mX7_unlocks (d + 7) [.ref 27, .ref 20, .int (nI inp), .ref ly, .int (nI lf), .int (nI ln)] S (fun z S' => z = some (.int (ks_bo (ulS (fun code k s => ecG k s (sgH g9 L9 b9 k9 p9 m9 u9 e9 inp (s.getD (s.length - 1) 0) code)) (lkB g9 L9 p9 e9 inp) (bytL g9 (iS g9 L9 p9 inp) (iZ g9 L9 p9 inp)) (bytL gl lf ln)))) ∧ ks_up S S' LRn ∧ mcZ S') := by
  obtain ⟨hW, ⟨xs0, ys0, u00, hO⟩, hD, vw, ji, vc, j1, j2, j3, j4, j5, j6, i1, i2, i3, i4, hM⟩ := hZ
  obtain ⟨fA, fS, fZ, hA, hS, hZ, h21, h22, h23, h24, h25, h26, hI, hU⟩ := tv_get hV
  have hb9 := tx_bd hV.2.1
  obtain ⟨eA, eS, eZ⟩ := hI inp hi9
  have hib := tx_in hV.2.1 inp hi9
  rw [← eS, ← eZ] at hib ⊢
  have he9 : e9 ≤ u9 + 4000 := by omega
  obtain ⟨GD, hGD⟩ : ∃ F, F = (fun code k s => ecG k s (sgH g9 L9 b9 k9 p9 m9 u9 e9 inp (s.getD (s.length - 1) 0) code)) := ⟨_, rfl⟩
  obtain ⟨LK, hLK⟩ : ∃ F, F = (lkB g9 L9 p9 e9 inp) := ⟨_, rfl⟩
  rw [← hGD, ← hLK]
  have ly27 : ly ≠ 27 := by omega
  refine ks_of (by decide) rfl rfl (Nat.le_of_ble_eq_true rfl) ?_
  show ks_X l G mX7_unlocks (d + 7) 0 [(0, .ref 27), (1, .ref 20), (2, .int (nI inp)), (3, .ref ly), (4, .int (nI lf)), (5, .int (nI ln))] [] S _
  refine ks_aload_n dX7_unlocks_0 rfl rfl ?_
  refine ks_aload_n dX7_unlocks_1 rfl rfl ?_
  refine ks_putf (T := TX7) (kf := 7) kx_650 rfl in_X7 tyX7_ok nmX7 cl_X7 (by decide) hM (Nat.le_of_ble_eq_true rfl) rfl rfl rfl rfl dX7_unlocks_2 rfl ?_
  refine ks_aload_n dX7_unlocks_5 rfl rfl ?_
  refine ks_iload_n dX7_unlocks_6 rfl rfl ?_
  refine ks_putf (T := TX7) (kf := 8) kx_651 rfl in_X7 tyX7_ok nmX7 cl_X7 (by decide) (ks_set_same _ _ _) (Nat.le_of_ble_eq_true rfl) rfl rfl rfl rfl dX7_unlocks_7 rfl ?_
  refine ks_aload_n dX7_unlocks_10 rfl rfl ?_
  refine ks_getf (T := TX7) (kf := 3) kx_646 rfl in_X7 cl_X7 (by decide) (ks_set_same _ _ _) rfl dX7_unlocks_11 rfl ?_
  obtain ⟨S1, hS1⟩ : ∃ S1, S1 = ks_set S 27 (.inr (10, [.ref 28, .ref 7, .ref 14, .ref 29, .ref 36, .ref 37, .ref 39, .ref 20, .int (nI inp), vc, .int j1, .int j2, .int j3, .int j4, .int j5, .int j6, .int i1, .int i2, .int i3, .int i4])) := ⟨_, rfl⟩
  refine ks_tS (S' := S1) (by rw [hS1]; simp only [ks_set_set]; rfl) ?_
  have u1 : ks_up S S1 [27] := by rw [hS1]; exact ks_up_set _ _ (by decide)
  have M1 : S1.2.2 27 = some (.inr (10, [.ref 28, .ref 7, .ref 14, .ref 29, .ref 36, .ref 37, .ref 39, .ref 20, .int (nI inp), vc, .int j1, .int j2, .int j3, .int j4, .int j5, .int j6, .int i1, .int i2, .int i3, .int i4])) := by rw [hS1]; exact ks_set_same _ _ _
  have O1 : st_ok S1 xs0 ys0 u00 := hO.up u1 (by decide)
  refine ks_callV (n := 0) (M' := mX8_clear) (c_st_clear (d := d + 6) O1) O1.ob cl_X8 rfl kx_1551 kx_1552 kx_1553 kx_25 kx_1554 (by decide +kernel) rfl (by decide) (Nat.le_of_ble_eq_true rfl) rfl dX7_unlocks_14 rfl (fun z2 T2 y2 => ?_)
  obtain ⟨rfl, v2, O2⟩ := y2
  have u2 : ks_up S T2 LRn := (u1.mono (by decide)).trans (v2.1.mono (by decide))
  have M2 := v2.1.at M1 (by decide)
  have W2 : mcW T2 := (hW.up u1 (by decide)).up v2.1 (by decide)
  obtain ⟨dn, hdn⟩ := hD
  have D2 : ∃ dn, T2.2.2 36 = some (kZ 202 dn) := ⟨dn, v2.1.at (u1.at hdn (by decide)) (by decide)⟩
  have V2 := hV.up u2 (by decide)
  have Y2 := u2.at hy9 (by simp only [List.mem_cons, List.not_mem_nil, or_false, not_or]; omega)
  have K2 := u2.st hK (by unfold ks_B; decide)
  have H22 := u2.at h22 (by decide)
  have H23 := u2.at h23 (by decide)
  refine ks_aload_n dX7_unlocks_17 rfl rfl ?_
  refine ks_getf (T := TX7) (kf := 7) kx_650 rfl in_X7 cl_X7 (by decide) M2 rfl dX7_unlocks_18 rfl ?_
  refine ks_getf (T := TX10) (kf := 4) kx_564 rfl in_X10 cl_X10 (by decide) V2.1 rfl dX7_unlocks_21 rfl ?_
  refine ks_aload_n dX7_unlocks_24 rfl rfl ?_
  refine ks_getf (T := TX7) (kf := 8) kx_651 rfl in_X7 cl_X7 (by decide) M2 rfl dX7_unlocks_25 rfl ?_
  refine ks_ialdN (i := inp) H22 rfl (by omega) (by decide) dX7_unlocks_28 rfl ?_
  refine ks_istore dX7_unlocks_29 (by decide) rfl ?_
  refine ks_sub [(6, _), (0, _), (1, _), (2, _), (3, _), (4, _), (5, _)] rfl ?_
  refine ks_iload dX7_unlocks_31 rfl rfl ?_
  refine ks_aload_n dX7_unlocks_33 rfl rfl ?_
  refine ks_getf (T := TX7) (kf := 7) kx_650 rfl in_X7 cl_X7 (by decide) M2 rfl dX7_unlocks_34 rfl ?_
  refine ks_getf (T := TX10) (kf := 5) kx_566 rfl in_X10 cl_X10 (by decide) V2.1 rfl dX7_unlocks_37 rfl ?_
  refine ks_aload_n dX7_unlocks_40 rfl rfl ?_
  refine ks_getf (T := TX7) (kf := 8) kx_651 rfl in_X7 cl_X7 (by decide) M2 rfl dX7_unlocks_41 rfl ?_
  refine ks_ialdN (i := inp) H23 rfl (by omega) (by decide) dX7_unlocks_44 rfl ?_
  refine ks_addN dX7_unlocks_45 rfl ?_
  refine ks_istore dX7_unlocks_46 (by decide) rfl ?_
  refine ks_sub [(7, _), (0, _), (1, _), (2, _), (3, _), (4, _), (5, _), (6, _)] rfl ?_
  refine ks_aload_n dX7_unlocks_48 rfl rfl ?_
  refine ks_aload_n dX7_unlocks_49 rfl rfl ?_
  refine ks_getf (T := TX7) (kf := 7) kx_650 rfl in_X7 cl_X7 (by decide) M2 rfl dX7_unlocks_50 rfl ?_
  refine ks_getf (T := TX10) (kf := 0) kx_555 rfl in_X10 cl_X10 (by decide) V2.1 rfl dX7_unlocks_53 rfl ?_
  refine ks_iload dX7_unlocks_56 rfl rfl ?_
  refine ks_iload dX7_unlocks_58 rfl rfl ?_
  refine ks_callV (n := 3) (M' := mX7_run) (c_mc_run (d := d) (u0 := 0) M2 hma V2 Y2 hg9 hL9 hN9 hi9 he9 hyn K2 (Or.inl (by simp only [List.mem_cons, List.not_mem_nil, or_false, not_or]; omega)) (by omega) (by omega) (by omega) (by omega) O2 W2 D2 Y2 hg9 (by omega) (by decide)) M2 cl_X7 rfl kx_1555 kx_1557 kxp_34 kx_24 kx_1558 (by decide +kernel) rfl (by decide) (Nat.le_of_ble_eq_true rfl) rfl dX7_unlocks_60 rfl (fun z3 T3 y3 => ?_)
  rw [Nat.add_sub_cancel_left, ← hGD, ← hLK] at y3
  have er1 : rnS GD LK (fZ inp) (bytL g9 (fS inp) (fZ inp)) (bytL g9 (fS inp) (fZ inp)) 0 [] [] [] = rnW GD LK (bytL g9 (fS inp) (fZ inp)) [] := by unfold rnW; rw [bytL_len]
  rw [er1] at y3
  generalize hsi : bytL g9 (fS inp) (fZ inp) = si at *
  cases hr1 : rnW GD LK si [] with
  | none =>
    rw [hr1] at y3
    obtain ⟨rfl, F3⟩ := y3
    have eU : ulS GD LK si (bytL gl lf ln) = false := by unfold ulS; rw [hr1]
    rw [eU]
    refine ks_if_neZ (tgt := 68) dX7_unlocks_63 (by decide) rfl (fun h1 => ?_) (fun h1 => ?_)
    · exact absurd h1 (by decide)
    · refine ks_iconst (x := nI 0) dX7_unlocks_66 (by decide) rfl ?_
      refine ks_zret rfl rfl dX7_unlocks_67 ?_
      exact ⟨rfl, u2.trans F3.1, F3.z⟩
  | some q =>
    rw [hr1] at y3
    obtain ⟨rfl, F3, v3, uA, hA0, hA1, hA2, O3⟩ := y3
    have u3 : ks_up S T3 LRn := u2.trans F3.1
    obtain ⟨-, W3, -, D3, vc3, k1, k2, k3, k4, k5, k6, l1, l2, l3, l4, M3⟩ := F3
    have V3 := hV.up u3 (by decide)
    have Y3 := u3.at hy9 (by simp only [List.mem_cons, List.not_mem_nil, or_false, not_or]; omega)
    have L3 := u3.at hly (by simp only [List.mem_cons, List.not_mem_nil, or_false, not_or]; omega)
    have K3 := u3.st hK (by unfold ks_B; decide)
    have Z3 : mcZ T3 := ⟨W3, ⟨_, _, _, O3⟩, D3, _, _, _, _, _, _, _, _, _, _, _, _, _, M3⟩
    refine ks_if_neZ (tgt := 68) dX7_unlocks_63 (by decide) rfl (fun h1 => ?_) (fun h1 => ?_)
    · have gd0 : ∀ j, j < ln → (bytL gl lf ln).getD j 0 = gl (lf + j) := fun j hj => bytL_at gl lf ln hj
      have hps9 : p2sh (bytL gl lf ln) = decide (ln = 23 ∧ gl lf = 169 ∧ gl (lf + 1) = 20 ∧ gl (lf + 22) = 135) := by
        unfold p2sh
        rw [bytL_len]
        by_cases c : ln = 23
        · rw [gd0 0 (by omega), gd0 1 (by omega), gd0 22 (by omega)]; rfl
        · rw [decide_eq_false (fun h => c h.1), decide_eq_false (fun h => c h.1)]
      refine ks_iload dX7_unlocks_68 rfl rfl ?_
      refine ks_bipush (x := nI 23) dX7_unlocks_70 (by decide) rfl ?_
      refine ks_icmp_neN (tgt := 111) (by omega) (by decide) dX7_unlocks_72 (by decide) rfl (fun hc72 => ?_) (fun hc72 => ?_)
      · refine ks_iconst (x := nI 0) dX7_unlocks_111 (by decide) rfl ?_
        refine ks_istore dX7_unlocks_112 (by decide) rfl ?_
        refine ks_sub [(8, _), (0, _), (1, _), (2, _), (3, _), (4, _), (5, _), (6, _), (7, _)] rfl ?_
        have hps : p2sh (bytL gl lf ln) = false := by rw [hps9]; exact decide_eq_false (by omega)
        have nh : ¬ (p2sh (bytL gl lf ln) = true ∧ (q.1 = [] ∨ psh_ si = false)) := fun h => by rw [hps] at h; cases h.1
        refine ks_iload dX7_unlocks_114 rfl rfl ?_
        refine ks_if_eqN (tgt := 148) (by decide) dX7_unlocks_116 (by decide) rfl (fun hc116 => ?_) (fun hc116 => ?_)
        · refine ks_iload dX7_unlocks_148 rfl rfl ?_
          refine ks_if_eqN (tgt := 173) (by decide) dX7_unlocks_150 (by decide) rfl (fun hc150 => ?_) (fun hc150 => ?_)
          · refine ks_iconst (x := nI 0) dX7_unlocks_173 (by decide) rfl ?_
            refine ks_istore dX7_unlocks_174 (by decide) rfl ?_
            refine ks_sub [(9, _), (0, _), (1, _), (2, _), (3, _), (4, _), (5, _), (6, _), (7, _), (8, _)] rfl ?_
            refine ks_iload dX7_unlocks_176 rfl rfl ?_
            refine ks_if_eqN (tgt := 201) (by decide) dX7_unlocks_178 (by decide) rfl (fun hc178 => ?_) (fun hc178 => ?_)
            · refine ks_iconst (x := nI 0) dX7_unlocks_201 (by decide) rfl ?_
              refine ks_istore dX7_unlocks_202 (by decide) rfl ?_
              refine ks_sub [(10, _), (0, _), (1, _), (2, _), (3, _), (4, _), (5, _), (6, _), (7, _), (8, _), (9, _)] rfl ?_
              refine ks_aload_n dX7_unlocks_204 rfl rfl ?_
              refine ks_aload_n dX7_unlocks_205 rfl rfl ?_
              refine ks_iload dX7_unlocks_206 rfl rfl ?_
              refine ks_iload dX7_unlocks_208 rfl rfl ?_
              refine ks_iload dX7_unlocks_210 rfl rfl ?_
              refine ks_addN dX7_unlocks_212 rfl ?_
              refine ks_callV (n := 3) (M' := mX7_run) (c_mc_run (d := d) (u0 := uA) M3 hma V3 Y3 hg9 hL9 hN9 hi9 he9 hyn K3 (Or.inl (by simp only [List.mem_cons, List.not_mem_nil, or_false, not_or]; omega)) hNl (by omega) (by omega) (by omega) O3 W3 D3 L3 hgl (by omega) hA2) M3 cl_X7 rfl kx_1555 kx_1557 kxp_34 kx_24 kx_1558 (by decide +kernel) rfl (by decide) (Nat.le_of_ble_eq_true rfl) rfl dX7_unlocks_213 rfl (fun z4 T4 y4 => ?_)
              rw [Nat.add_sub_cancel_left, ← hGD, ← hLK] at y4
              have er2 : rnS GD LK ln (bytL gl lf ln) (bytL gl lf ln) 0 q.1 [] [] = rnW GD LK (bytL gl lf ln) q.1 := by unfold rnW; rw [bytL_len]
              rw [er2] at y4
              cases hr2 : rnW GD LK (bytL gl lf ln) q.1 with
              | none =>
                rw [hr2] at y4
                obtain ⟨rfl, F4⟩ := y4
                refine ks_if_eqZ (tgt := 229) dX7_unlocks_216 (by decide) rfl (fun h4 => ?_) (fun h4 => ?_)
                · refine ks_iconst (x := nI 0) dX7_unlocks_229 (by decide) rfl ?_
                  refine ks_zret rfl rfl dX7_unlocks_230 ?_
                  have eU : ulS GD LK si (bytL gl lf ln) = false := by
                    unfold ulS
                    rw [hr1]
                    simp only []
                    rw [if_neg nh, hr2]
                  rw [eU]
                  exact ⟨rfl, u3.trans F4.1, F4.z⟩
                · exact absurd h4 (by decide)
              | some r =>
                rw [hr2] at y4
                obtain ⟨rfl, F4, v4, uB, hB0, hB1, hB2, O4⟩ := y4
                have u4 : ks_up S T4 LRn := u3.trans F4.1
                have Z4 := F4.z
                obtain ⟨-, W4, -, D4, vc4, n1, n2, n3, n4, n5, n6, o1, o2, o3, o4, M4⟩ := F4
                refine ks_if_eqZ (tgt := 229) dX7_unlocks_216 (by decide) rfl (fun h4 => ?_) (fun h4 => ?_)
                · exact absurd h4 (by decide)
                · refine ks_aload_n dX7_unlocks_219 rfl rfl ?_
                  refine ks_getf (T := TX7) (kf := 3) kx_646 rfl in_X7 cl_X7 (by decide) M4 rfl dX7_unlocks_220 rfl ?_
                  refine ks_callV (n := 0) (M' := mX8_isTopTrue) (c_st_isTopTrue (d := d + 6) O4) O4.ob cl_X8 rfl kx_1571 kx_1572 kx_1573 kx_25 kx_1574 (by decide +kernel) rfl (by decide) (Nat.le_of_ble_eq_true rfl) rfl dX7_unlocks_223 rfl (fun z5 T5 y5 => ?_)
                  obtain ⟨rfl, hT⟩ := y5
                  obtain rfl := hT.symm
                  refine ks_if_neZ (tgt := 231) dX7_unlocks_226 (by decide) rfl (fun h5 => ?_) (fun h5 => ?_)
                  · refine ks_iload dX7_unlocks_231 rfl rfl ?_
                    refine ks_if_neN (tgt := 238) (by decide) dX7_unlocks_233 (by decide) rfl (fun h6 => ?_) (fun h6 => ?_)
                    · exact absurd h6 (by decide)
                    · refine ks_iconst (x := nI 1) dX7_unlocks_236 (by decide) rfl ?_
                      refine ks_zret rfl rfl dX7_unlocks_237 ?_
                      have eU : ulS GD LK si (bytL gl lf ln) = true := by
                        unfold ulS
                        rw [hr1]
                        simp only []
                        rw [if_neg nh, hr2]
                        simp only []
                        rw [if_neg (by rw [h5]; decide), if_pos hps]
                      rw [eU]
                      exact ⟨rfl, u4, Z4⟩
                  · refine ks_iconst (x := nI 0) dX7_unlocks_229 (by decide) rfl ?_
                    refine ks_zret rfl rfl dX7_unlocks_230 ?_
                    have eU : ulS GD LK si (bytL gl lf ln) = false := by
                      unfold ulS
                      rw [hr1]
                      simp only []
                      rw [if_neg nh, hr2]
                      simp only []
                      rw [if_pos h5]
                    rw [eU]
                    exact ⟨rfl, u4, Z4⟩
            · exact absurd hc178 (by decide)
          · exact absurd hc150 (by decide)
        · exact absurd hc116 (by decide)
      · refine ks_aload_n dX7_unlocks_75 rfl rfl ?_
        refine ks_iload dX7_unlocks_76 rfl rfl ?_
        refine ks_baldB (i := lf) L3 rfl (by omega) (by omega) dX7_unlocks_78 rfl ?_
        refine ks_bipush (x := (-87)) dX7_unlocks_79 (by decide) rfl ?_
        refine ks_icmp_neYM (tgt := 111) (hgl _) 169 (by decide) (by decide) dX7_unlocks_81 (by decide) rfl (fun hc81 => ?_) (fun hc81 => ?_)
        · refine ks_iconst (x := nI 0) dX7_unlocks_111 (by decide) rfl ?_
          refine ks_istore dX7_unlocks_112 (by decide) rfl ?_
          refine ks_sub [(8, _), (0, _), (1, _), (2, _), (3, _), (4, _), (5, _), (6, _), (7, _)] rfl ?_
          have hps : p2sh (bytL gl lf ln) = false := by rw [hps9]; exact decide_eq_false (by omega)
          have nh : ¬ (p2sh (bytL gl lf ln) = true ∧ (q.1 = [] ∨ psh_ si = false)) := fun h => by rw [hps] at h; cases h.1
          refine ks_iload dX7_unlocks_114 rfl rfl ?_
          refine ks_if_eqN (tgt := 148) (by decide) dX7_unlocks_116 (by decide) rfl (fun hc116 => ?_) (fun hc116 => ?_)
          · refine ks_iload dX7_unlocks_148 rfl rfl ?_
            refine ks_if_eqN (tgt := 173) (by decide) dX7_unlocks_150 (by decide) rfl (fun hc150 => ?_) (fun hc150 => ?_)
            · refine ks_iconst (x := nI 0) dX7_unlocks_173 (by decide) rfl ?_
              refine ks_istore dX7_unlocks_174 (by decide) rfl ?_
              refine ks_sub [(9, _), (0, _), (1, _), (2, _), (3, _), (4, _), (5, _), (6, _), (7, _), (8, _)] rfl ?_
              refine ks_iload dX7_unlocks_176 rfl rfl ?_
              refine ks_if_eqN (tgt := 201) (by decide) dX7_unlocks_178 (by decide) rfl (fun hc178 => ?_) (fun hc178 => ?_)
              · refine ks_iconst (x := nI 0) dX7_unlocks_201 (by decide) rfl ?_
                refine ks_istore dX7_unlocks_202 (by decide) rfl ?_
                refine ks_sub [(10, _), (0, _), (1, _), (2, _), (3, _), (4, _), (5, _), (6, _), (7, _), (8, _), (9, _)] rfl ?_
                refine ks_aload_n dX7_unlocks_204 rfl rfl ?_
                refine ks_aload_n dX7_unlocks_205 rfl rfl ?_
                refine ks_iload dX7_unlocks_206 rfl rfl ?_
                refine ks_iload dX7_unlocks_208 rfl rfl ?_
                refine ks_iload dX7_unlocks_210 rfl rfl ?_
                refine ks_addN dX7_unlocks_212 rfl ?_
                refine ks_callV (n := 3) (M' := mX7_run) (c_mc_run (d := d) (u0 := uA) M3 hma V3 Y3 hg9 hL9 hN9 hi9 he9 hyn K3 (Or.inl (by simp only [List.mem_cons, List.not_mem_nil, or_false, not_or]; omega)) hNl (by omega) (by omega) (by omega) O3 W3 D3 L3 hgl (by omega) hA2) M3 cl_X7 rfl kx_1555 kx_1557 kxp_34 kx_24 kx_1558 (by decide +kernel) rfl (by decide) (Nat.le_of_ble_eq_true rfl) rfl dX7_unlocks_213 rfl (fun z4 T4 y4 => ?_)
                rw [Nat.add_sub_cancel_left, ← hGD, ← hLK] at y4
                have er2 : rnS GD LK ln (bytL gl lf ln) (bytL gl lf ln) 0 q.1 [] [] = rnW GD LK (bytL gl lf ln) q.1 := by unfold rnW; rw [bytL_len]
                rw [er2] at y4
                cases hr2 : rnW GD LK (bytL gl lf ln) q.1 with
                | none =>
                  rw [hr2] at y4
                  obtain ⟨rfl, F4⟩ := y4
                  refine ks_if_eqZ (tgt := 229) dX7_unlocks_216 (by decide) rfl (fun h4 => ?_) (fun h4 => ?_)
                  · refine ks_iconst (x := nI 0) dX7_unlocks_229 (by decide) rfl ?_
                    refine ks_zret rfl rfl dX7_unlocks_230 ?_
                    have eU : ulS GD LK si (bytL gl lf ln) = false := by
                      unfold ulS
                      rw [hr1]
                      simp only []
                      rw [if_neg nh, hr2]
                    rw [eU]
                    exact ⟨rfl, u3.trans F4.1, F4.z⟩
                  · exact absurd h4 (by decide)
                | some r =>
                  rw [hr2] at y4
                  obtain ⟨rfl, F4, v4, uB, hB0, hB1, hB2, O4⟩ := y4
                  have u4 : ks_up S T4 LRn := u3.trans F4.1
                  have Z4 := F4.z
                  obtain ⟨-, W4, -, D4, vc4, n1, n2, n3, n4, n5, n6, o1, o2, o3, o4, M4⟩ := F4
                  refine ks_if_eqZ (tgt := 229) dX7_unlocks_216 (by decide) rfl (fun h4 => ?_) (fun h4 => ?_)
                  · exact absurd h4 (by decide)
                  · refine ks_aload_n dX7_unlocks_219 rfl rfl ?_
                    refine ks_getf (T := TX7) (kf := 3) kx_646 rfl in_X7 cl_X7 (by decide) M4 rfl dX7_unlocks_220 rfl ?_
                    refine ks_callV (n := 0) (M' := mX8_isTopTrue) (c_st_isTopTrue (d := d + 6) O4) O4.ob cl_X8 rfl kx_1571 kx_1572 kx_1573 kx_25 kx_1574 (by decide +kernel) rfl (by decide) (Nat.le_of_ble_eq_true rfl) rfl dX7_unlocks_223 rfl (fun z5 T5 y5 => ?_)
                    obtain ⟨rfl, hT⟩ := y5
                    obtain rfl := hT.symm
                    refine ks_if_neZ (tgt := 231) dX7_unlocks_226 (by decide) rfl (fun h5 => ?_) (fun h5 => ?_)
                    · refine ks_iload dX7_unlocks_231 rfl rfl ?_
                      refine ks_if_neN (tgt := 238) (by decide) dX7_unlocks_233 (by decide) rfl (fun h6 => ?_) (fun h6 => ?_)
                      · exact absurd h6 (by decide)
                      · refine ks_iconst (x := nI 1) dX7_unlocks_236 (by decide) rfl ?_
                        refine ks_zret rfl rfl dX7_unlocks_237 ?_
                        have eU : ulS GD LK si (bytL gl lf ln) = true := by
                          unfold ulS
                          rw [hr1]
                          simp only []
                          rw [if_neg nh, hr2]
                          simp only []
                          rw [if_neg (by rw [h5]; decide), if_pos hps]
                        rw [eU]
                        exact ⟨rfl, u4, Z4⟩
                    · refine ks_iconst (x := nI 0) dX7_unlocks_229 (by decide) rfl ?_
                      refine ks_zret rfl rfl dX7_unlocks_230 ?_
                      have eU : ulS GD LK si (bytL gl lf ln) = false := by
                        unfold ulS
                        rw [hr1]
                        simp only []
                        rw [if_neg nh, hr2]
                        simp only []
                        rw [if_pos h5]
                      rw [eU]
                      exact ⟨rfl, u4, Z4⟩
              · exact absurd hc178 (by decide)
            · exact absurd hc150 (by decide)
          · exact absurd hc116 (by decide)
        · refine ks_aload_n dX7_unlocks_84 rfl rfl ?_
          refine ks_iload dX7_unlocks_85 rfl rfl ?_
          refine ks_iconst (x := nI 1) dX7_unlocks_87 (by decide) rfl ?_
          refine ks_addN dX7_unlocks_88 rfl ?_
          refine ks_baldB (i := lf + 1) L3 rfl (by omega) (by omega) dX7_unlocks_89 rfl ?_
          refine ks_bipush (x := nI 20) dX7_unlocks_90 (by decide) rfl ?_
          refine ks_icmp_neYN (tgt := 111) (hgl _) (by decide) dX7_unlocks_92 (by decide) rfl (fun hc92 => ?_) (fun hc92 => ?_)
          · refine ks_iconst (x := nI 0) dX7_unlocks_111 (by decide) rfl ?_
            refine ks_istore dX7_unlocks_112 (by decide) rfl ?_
            refine ks_sub [(8, _), (0, _), (1, _), (2, _), (3, _), (4, _), (5, _), (6, _), (7, _)] rfl ?_
            have hps : p2sh (bytL gl lf ln) = false := by rw [hps9]; exact decide_eq_false (by omega)
            have nh : ¬ (p2sh (bytL gl lf ln) = true ∧ (q.1 = [] ∨ psh_ si = false)) := fun h => by rw [hps] at h; cases h.1
            refine ks_iload dX7_unlocks_114 rfl rfl ?_
            refine ks_if_eqN (tgt := 148) (by decide) dX7_unlocks_116 (by decide) rfl (fun hc116 => ?_) (fun hc116 => ?_)
            · refine ks_iload dX7_unlocks_148 rfl rfl ?_
              refine ks_if_eqN (tgt := 173) (by decide) dX7_unlocks_150 (by decide) rfl (fun hc150 => ?_) (fun hc150 => ?_)
              · refine ks_iconst (x := nI 0) dX7_unlocks_173 (by decide) rfl ?_
                refine ks_istore dX7_unlocks_174 (by decide) rfl ?_
                refine ks_sub [(9, _), (0, _), (1, _), (2, _), (3, _), (4, _), (5, _), (6, _), (7, _), (8, _)] rfl ?_
                refine ks_iload dX7_unlocks_176 rfl rfl ?_
                refine ks_if_eqN (tgt := 201) (by decide) dX7_unlocks_178 (by decide) rfl (fun hc178 => ?_) (fun hc178 => ?_)
                · refine ks_iconst (x := nI 0) dX7_unlocks_201 (by decide) rfl ?_
                  refine ks_istore dX7_unlocks_202 (by decide) rfl ?_
                  refine ks_sub [(10, _), (0, _), (1, _), (2, _), (3, _), (4, _), (5, _), (6, _), (7, _), (8, _), (9, _)] rfl ?_
                  refine ks_aload_n dX7_unlocks_204 rfl rfl ?_
                  refine ks_aload_n dX7_unlocks_205 rfl rfl ?_
                  refine ks_iload dX7_unlocks_206 rfl rfl ?_
                  refine ks_iload dX7_unlocks_208 rfl rfl ?_
                  refine ks_iload dX7_unlocks_210 rfl rfl ?_
                  refine ks_addN dX7_unlocks_212 rfl ?_
                  refine ks_callV (n := 3) (M' := mX7_run) (c_mc_run (d := d) (u0 := uA) M3 hma V3 Y3 hg9 hL9 hN9 hi9 he9 hyn K3 (Or.inl (by simp only [List.mem_cons, List.not_mem_nil, or_false, not_or]; omega)) hNl (by omega) (by omega) (by omega) O3 W3 D3 L3 hgl (by omega) hA2) M3 cl_X7 rfl kx_1555 kx_1557 kxp_34 kx_24 kx_1558 (by decide +kernel) rfl (by decide) (Nat.le_of_ble_eq_true rfl) rfl dX7_unlocks_213 rfl (fun z4 T4 y4 => ?_)
                  rw [Nat.add_sub_cancel_left, ← hGD, ← hLK] at y4
                  have er2 : rnS GD LK ln (bytL gl lf ln) (bytL gl lf ln) 0 q.1 [] [] = rnW GD LK (bytL gl lf ln) q.1 := by unfold rnW; rw [bytL_len]
                  rw [er2] at y4
                  cases hr2 : rnW GD LK (bytL gl lf ln) q.1 with
                  | none =>
                    rw [hr2] at y4
                    obtain ⟨rfl, F4⟩ := y4
                    refine ks_if_eqZ (tgt := 229) dX7_unlocks_216 (by decide) rfl (fun h4 => ?_) (fun h4 => ?_)
                    · refine ks_iconst (x := nI 0) dX7_unlocks_229 (by decide) rfl ?_
                      refine ks_zret rfl rfl dX7_unlocks_230 ?_
                      have eU : ulS GD LK si (bytL gl lf ln) = false := by
                        unfold ulS
                        rw [hr1]
                        simp only []
                        rw [if_neg nh, hr2]
                      rw [eU]
                      exact ⟨rfl, u3.trans F4.1, F4.z⟩
                    · exact absurd h4 (by decide)
                  | some r =>
                    rw [hr2] at y4
                    obtain ⟨rfl, F4, v4, uB, hB0, hB1, hB2, O4⟩ := y4
                    have u4 : ks_up S T4 LRn := u3.trans F4.1
                    have Z4 := F4.z
                    obtain ⟨-, W4, -, D4, vc4, n1, n2, n3, n4, n5, n6, o1, o2, o3, o4, M4⟩ := F4
                    refine ks_if_eqZ (tgt := 229) dX7_unlocks_216 (by decide) rfl (fun h4 => ?_) (fun h4 => ?_)
                    · exact absurd h4 (by decide)
                    · refine ks_aload_n dX7_unlocks_219 rfl rfl ?_
                      refine ks_getf (T := TX7) (kf := 3) kx_646 rfl in_X7 cl_X7 (by decide) M4 rfl dX7_unlocks_220 rfl ?_
                      refine ks_callV (n := 0) (M' := mX8_isTopTrue) (c_st_isTopTrue (d := d + 6) O4) O4.ob cl_X8 rfl kx_1571 kx_1572 kx_1573 kx_25 kx_1574 (by decide +kernel) rfl (by decide) (Nat.le_of_ble_eq_true rfl) rfl dX7_unlocks_223 rfl (fun z5 T5 y5 => ?_)
                      obtain ⟨rfl, hT⟩ := y5
                      obtain rfl := hT.symm
                      refine ks_if_neZ (tgt := 231) dX7_unlocks_226 (by decide) rfl (fun h5 => ?_) (fun h5 => ?_)
                      · refine ks_iload dX7_unlocks_231 rfl rfl ?_
                        refine ks_if_neN (tgt := 238) (by decide) dX7_unlocks_233 (by decide) rfl (fun h6 => ?_) (fun h6 => ?_)
                        · exact absurd h6 (by decide)
                        · refine ks_iconst (x := nI 1) dX7_unlocks_236 (by decide) rfl ?_
                          refine ks_zret rfl rfl dX7_unlocks_237 ?_
                          have eU : ulS GD LK si (bytL gl lf ln) = true := by
                            unfold ulS
                            rw [hr1]
                            simp only []
                            rw [if_neg nh, hr2]
                            simp only []
                            rw [if_neg (by rw [h5]; decide), if_pos hps]
                          rw [eU]
                          exact ⟨rfl, u4, Z4⟩
                      · refine ks_iconst (x := nI 0) dX7_unlocks_229 (by decide) rfl ?_
                        refine ks_zret rfl rfl dX7_unlocks_230 ?_
                        have eU : ulS GD LK si (bytL gl lf ln) = false := by
                          unfold ulS
                          rw [hr1]
                          simp only []
                          rw [if_neg nh, hr2]
                          simp only []
                          rw [if_pos h5]
                        rw [eU]
                        exact ⟨rfl, u4, Z4⟩
                · exact absurd hc178 (by decide)
              · exact absurd hc150 (by decide)
            · exact absurd hc116 (by decide)
          · refine ks_aload_n dX7_unlocks_95 rfl rfl ?_
            refine ks_iload dX7_unlocks_96 rfl rfl ?_
            refine ks_bipush (x := nI 22) dX7_unlocks_98 (by decide) rfl ?_
            refine ks_addN dX7_unlocks_100 rfl ?_
            refine ks_baldB (i := lf + 22) L3 rfl (by omega) (by omega) dX7_unlocks_101 rfl ?_
            refine ks_bipush (x := (-121)) dX7_unlocks_102 (by decide) rfl ?_
            refine ks_icmp_neYM (tgt := 111) (hgl _) 135 (by decide) (by decide) dX7_unlocks_104 (by decide) rfl (fun hc104 => ?_) (fun hc104 => ?_)
            · refine ks_iconst (x := nI 0) dX7_unlocks_111 (by decide) rfl ?_
              refine ks_istore dX7_unlocks_112 (by decide) rfl ?_
              refine ks_sub [(8, _), (0, _), (1, _), (2, _), (3, _), (4, _), (5, _), (6, _), (7, _)] rfl ?_
              have hps : p2sh (bytL gl lf ln) = false := by rw [hps9]; exact decide_eq_false (by omega)
              have nh : ¬ (p2sh (bytL gl lf ln) = true ∧ (q.1 = [] ∨ psh_ si = false)) := fun h => by rw [hps] at h; cases h.1
              refine ks_iload dX7_unlocks_114 rfl rfl ?_
              refine ks_if_eqN (tgt := 148) (by decide) dX7_unlocks_116 (by decide) rfl (fun hc116 => ?_) (fun hc116 => ?_)
              · refine ks_iload dX7_unlocks_148 rfl rfl ?_
                refine ks_if_eqN (tgt := 173) (by decide) dX7_unlocks_150 (by decide) rfl (fun hc150 => ?_) (fun hc150 => ?_)
                · refine ks_iconst (x := nI 0) dX7_unlocks_173 (by decide) rfl ?_
                  refine ks_istore dX7_unlocks_174 (by decide) rfl ?_
                  refine ks_sub [(9, _), (0, _), (1, _), (2, _), (3, _), (4, _), (5, _), (6, _), (7, _), (8, _)] rfl ?_
                  refine ks_iload dX7_unlocks_176 rfl rfl ?_
                  refine ks_if_eqN (tgt := 201) (by decide) dX7_unlocks_178 (by decide) rfl (fun hc178 => ?_) (fun hc178 => ?_)
                  · refine ks_iconst (x := nI 0) dX7_unlocks_201 (by decide) rfl ?_
                    refine ks_istore dX7_unlocks_202 (by decide) rfl ?_
                    refine ks_sub [(10, _), (0, _), (1, _), (2, _), (3, _), (4, _), (5, _), (6, _), (7, _), (8, _), (9, _)] rfl ?_
                    refine ks_aload_n dX7_unlocks_204 rfl rfl ?_
                    refine ks_aload_n dX7_unlocks_205 rfl rfl ?_
                    refine ks_iload dX7_unlocks_206 rfl rfl ?_
                    refine ks_iload dX7_unlocks_208 rfl rfl ?_
                    refine ks_iload dX7_unlocks_210 rfl rfl ?_
                    refine ks_addN dX7_unlocks_212 rfl ?_
                    refine ks_callV (n := 3) (M' := mX7_run) (c_mc_run (d := d) (u0 := uA) M3 hma V3 Y3 hg9 hL9 hN9 hi9 he9 hyn K3 (Or.inl (by simp only [List.mem_cons, List.not_mem_nil, or_false, not_or]; omega)) hNl (by omega) (by omega) (by omega) O3 W3 D3 L3 hgl (by omega) hA2) M3 cl_X7 rfl kx_1555 kx_1557 kxp_34 kx_24 kx_1558 (by decide +kernel) rfl (by decide) (Nat.le_of_ble_eq_true rfl) rfl dX7_unlocks_213 rfl (fun z4 T4 y4 => ?_)
                    rw [Nat.add_sub_cancel_left, ← hGD, ← hLK] at y4
                    have er2 : rnS GD LK ln (bytL gl lf ln) (bytL gl lf ln) 0 q.1 [] [] = rnW GD LK (bytL gl lf ln) q.1 := by unfold rnW; rw [bytL_len]
                    rw [er2] at y4
                    cases hr2 : rnW GD LK (bytL gl lf ln) q.1 with
                    | none =>
                      rw [hr2] at y4
                      obtain ⟨rfl, F4⟩ := y4
                      refine ks_if_eqZ (tgt := 229) dX7_unlocks_216 (by decide) rfl (fun h4 => ?_) (fun h4 => ?_)
                      · refine ks_iconst (x := nI 0) dX7_unlocks_229 (by decide) rfl ?_
                        refine ks_zret rfl rfl dX7_unlocks_230 ?_
                        have eU : ulS GD LK si (bytL gl lf ln) = false := by
                          unfold ulS
                          rw [hr1]
                          simp only []
                          rw [if_neg nh, hr2]
                        rw [eU]
                        exact ⟨rfl, u3.trans F4.1, F4.z⟩
                      · exact absurd h4 (by decide)
                    | some r =>
                      rw [hr2] at y4
                      obtain ⟨rfl, F4, v4, uB, hB0, hB1, hB2, O4⟩ := y4
                      have u4 : ks_up S T4 LRn := u3.trans F4.1
                      have Z4 := F4.z
                      obtain ⟨-, W4, -, D4, vc4, n1, n2, n3, n4, n5, n6, o1, o2, o3, o4, M4⟩ := F4
                      refine ks_if_eqZ (tgt := 229) dX7_unlocks_216 (by decide) rfl (fun h4 => ?_) (fun h4 => ?_)
                      · exact absurd h4 (by decide)
                      · refine ks_aload_n dX7_unlocks_219 rfl rfl ?_
                        refine ks_getf (T := TX7) (kf := 3) kx_646 rfl in_X7 cl_X7 (by decide) M4 rfl dX7_unlocks_220 rfl ?_
                        refine ks_callV (n := 0) (M' := mX8_isTopTrue) (c_st_isTopTrue (d := d + 6) O4) O4.ob cl_X8 rfl kx_1571 kx_1572 kx_1573 kx_25 kx_1574 (by decide +kernel) rfl (by decide) (Nat.le_of_ble_eq_true rfl) rfl dX7_unlocks_223 rfl (fun z5 T5 y5 => ?_)
                        obtain ⟨rfl, hT⟩ := y5
                        obtain rfl := hT.symm
                        refine ks_if_neZ (tgt := 231) dX7_unlocks_226 (by decide) rfl (fun h5 => ?_) (fun h5 => ?_)
                        · refine ks_iload dX7_unlocks_231 rfl rfl ?_
                          refine ks_if_neN (tgt := 238) (by decide) dX7_unlocks_233 (by decide) rfl (fun h6 => ?_) (fun h6 => ?_)
                          · exact absurd h6 (by decide)
                          · refine ks_iconst (x := nI 1) dX7_unlocks_236 (by decide) rfl ?_
                            refine ks_zret rfl rfl dX7_unlocks_237 ?_
                            have eU : ulS GD LK si (bytL gl lf ln) = true := by
                              unfold ulS
                              rw [hr1]
                              simp only []
                              rw [if_neg nh, hr2]
                              simp only []
                              rw [if_neg (by rw [h5]; decide), if_pos hps]
                            rw [eU]
                            exact ⟨rfl, u4, Z4⟩
                        · refine ks_iconst (x := nI 0) dX7_unlocks_229 (by decide) rfl ?_
                          refine ks_zret rfl rfl dX7_unlocks_230 ?_
                          have eU : ulS GD LK si (bytL gl lf ln) = false := by
                            unfold ulS
                            rw [hr1]
                            simp only []
                            rw [if_neg nh, hr2]
                            simp only []
                            rw [if_pos h5]
                          rw [eU]
                          exact ⟨rfl, u4, Z4⟩
                  · exact absurd hc178 (by decide)
                · exact absurd hc150 (by decide)
              · exact absurd hc116 (by decide)
            · refine ks_iconst (x := nI 1) dX7_unlocks_107 (by decide) rfl ?_
              refine ks_goto (tgt := 112) dX7_unlocks_108 (by decide) ?_
              refine ks_istore dX7_unlocks_112 (by decide) rfl ?_
              refine ks_sub [(8, _), (0, _), (1, _), (2, _), (3, _), (4, _), (5, _), (6, _), (7, _)] rfl ?_
              have hps : p2sh (bytL gl lf ln) = true := by rw [hps9]; exact decide_eq_true (by omega)
              refine ks_iload dX7_unlocks_114 rfl rfl ?_
              refine ks_if_eqN (tgt := 148) (by decide) dX7_unlocks_116 (by decide) rfl (fun h2 => ?_) (fun h2 => ?_)
              · exact absurd h2 (by decide)
              · refine ks_aload_n dX7_unlocks_119 rfl rfl ?_
                refine ks_getf (T := TX7) (kf := 3) kx_646 rfl in_X7 cl_X7 (by decide) M3 rfl dX7_unlocks_120 rfl ?_
                refine ks_getf (T := TX8) (kf := 3) kx_615 rfl in_X8 cl_X8 (by decide) O3.ob rfl dX7_unlocks_123 rfl ?_
                refine ks_if_eqN (tgt := 146) (by omega) dX7_unlocks_126 (by decide) rfl (fun h3 => ?_) (fun h3 => ?_)
                · refine ks_iconst (x := nI 0) dX7_unlocks_146 (by decide) rfl ?_
                  refine ks_zret rfl rfl dX7_unlocks_147 ?_
                  have eU : ulS GD LK si (bytL gl lf ln) = false := by
                    unfold ulS
                    rw [hr1]
                    simp only []
                    rw [if_pos ⟨hps, Or.inl (List.eq_nil_of_length_eq_zero h3)⟩]
                  rw [eU]
                  exact ⟨rfl, u3, Z3⟩
                · refine ks_aload_n dX7_unlocks_129 rfl rfl ?_
                  refine ks_getf (T := TX7) (kf := 7) kx_650 rfl in_X7 cl_X7 (by decide) M3 rfl dX7_unlocks_130 rfl ?_
                  refine ks_getf (T := TX10) (kf := 0) kx_555 rfl in_X10 cl_X10 (by decide) V3.1 rfl dX7_unlocks_133 rfl ?_
                  refine ks_iload dX7_unlocks_136 rfl rfl ?_
                  refine ks_iload dX7_unlocks_138 rfl rfl ?_
                  refine ks_callS (n := 3) (M' := mX7_hasPushesAlone) (c_hasPushesAlone (d := d + 4) (s := fS inp) (e := fS inp + fZ inp) Y3 hg9 (by omega) (by omega) (by omega)) kx_1720 kx_1721 kx_24 kx_1722 (by decide +kernel) rfl (by decide) (Nat.le_of_ble_eq_true rfl) rfl dX7_unlocks_140 rfl (fun z6 T6 y6 => ?_)
                  obtain ⟨rfl, hT⟩ := y6
                  obtain rfl := hT.symm
                  rw [Nat.add_sub_cancel_left, hsi]
                  refine ks_if_neZ (tgt := 148) dX7_unlocks_143 (by decide) rfl (fun h4 => ?_) (fun h4 => ?_)
                  · have nh : ¬ (p2sh (bytL gl lf ln) = true ∧ (q.1 = [] ∨ psh_ si = false)) := fun h => by
                      rcases h.2 with h | h
                      · rw [h] at h3; exact h3 rfl
                      · rw [h] at h4; cases h4
                    obtain ⟨ar, fa, fc, h30, h31, h32, kar, hel⟩ := O3.rows
                    obtain ⟨x1, x2, x3⟩ := hel 0 (by omega)
                    rw [Nat.sub_zero] at x1 x2 x3
                    have x520 : (q.1.getD 0 []).length ≤ 520 := rn_psh GD LK _ _ _ _ _ _ q h4 hr1 (fun x hx => absurd hx List.not_mem_nil) _ (by
                      have hl0 : 0 < q.1.length := by omega
                      rw [show q.1.getD 0 [] = q.1[0] by simp [List.getD, hl0]]
                      exact List.getElem_mem hl0)
                    refine ks_iload dX7_unlocks_148 rfl rfl ?_
                    refine ks_if_eqN (tgt := 173) (by decide) dX7_unlocks_150 (by decide) rfl (fun hc150 => ?_) (fun hc150 => ?_)
                    · exact absurd hc150 (by decide)
                    · refine ks_aload_n dX7_unlocks_153 rfl rfl ?_
                      refine ks_getf (T := TX7) (kf := 3) kx_646 rfl in_X7 cl_X7 (by decide) M3 rfl dX7_unlocks_154 rfl ?_
                      refine ks_getf (T := TX8) (kf := 1) kx_611 rfl in_X8 cl_X8 (by decide) O3.ob rfl dX7_unlocks_157 rfl ?_
                      refine ks_aload_n dX7_unlocks_160 rfl rfl ?_
                      refine ks_getf (T := TX7) (kf := 3) kx_646 rfl in_X7 cl_X7 (by decide) M3 rfl dX7_unlocks_161 rfl ?_
                      refine ks_getf (T := TX8) (kf := 3) kx_615 rfl in_X8 cl_X8 (by decide) O3.ob rfl dX7_unlocks_164 rfl ?_
                      refine ks_iconst (x := nI 1) dX7_unlocks_167 (by decide) rfl ?_
                      refine ks_subN (by omega) dX7_unlocks_168 rfl ?_
                      refine ks_ialdN (i := q.1.length - 1) h31 rfl (by omega) (by decide) dX7_unlocks_169 rfl ?_
                      refine ks_goto (tgt := 174) dX7_unlocks_170 (by decide) ?_
                      refine ks_istore dX7_unlocks_174 (by decide) rfl ?_
                      refine ks_sub [(9, _), (0, _), (1, _), (2, _), (3, _), (4, _), (5, _), (6, _), (7, _), (8, _)] rfl ?_
                      refine ks_iload dX7_unlocks_176 rfl rfl ?_
                      refine ks_if_eqN (tgt := 201) (by decide) dX7_unlocks_178 (by decide) rfl (fun hc178 => ?_) (fun hc178 => ?_)
                      · exact absurd hc178 (by decide)
                      · refine ks_aload_n dX7_unlocks_181 rfl rfl ?_
                        refine ks_getf (T := TX7) (kf := 3) kx_646 rfl in_X7 cl_X7 (by decide) M3 rfl dX7_unlocks_182 rfl ?_
                        refine ks_getf (T := TX8) (kf := 2) kx_613 rfl in_X8 cl_X8 (by decide) O3.ob rfl dX7_unlocks_185 rfl ?_
                        refine ks_aload_n dX7_unlocks_188 rfl rfl ?_
                        refine ks_getf (T := TX7) (kf := 3) kx_646 rfl in_X7 cl_X7 (by decide) M3 rfl dX7_unlocks_189 rfl ?_
                        refine ks_getf (T := TX8) (kf := 3) kx_615 rfl in_X8 cl_X8 (by decide) O3.ob rfl dX7_unlocks_192 rfl ?_
                        refine ks_iconst (x := nI 1) dX7_unlocks_195 (by decide) rfl ?_
                        refine ks_subN (by omega) dX7_unlocks_196 rfl ?_
                        refine ks_ialdN (i := q.1.length - 1) h32 rfl (by omega) (by decide) dX7_unlocks_197 rfl ?_
                        refine ks_goto (tgt := 202) dX7_unlocks_198 (by decide) ?_
                        rw [x2] at x3
                        refine ks_istore dX7_unlocks_202 (by decide) rfl ?_
                        refine ks_sub [(10, _), (0, _), (1, _), (2, _), (3, _), (4, _), (5, _), (6, _), (7, _), (8, _), (9, _)] rfl ?_
                        refine ks_aload_n dX7_unlocks_204 rfl rfl ?_
                        refine ks_aload_n dX7_unlocks_205 rfl rfl ?_
                        refine ks_iload dX7_unlocks_206 rfl rfl ?_
                        refine ks_iload dX7_unlocks_208 rfl rfl ?_
                        refine ks_iload dX7_unlocks_210 rfl rfl ?_
                        refine ks_addN dX7_unlocks_212 rfl ?_
                        refine ks_callV (n := 3) (M' := mX7_run) (c_mc_run (d := d) (u0 := uA) M3 hma V3 Y3 hg9 hL9 hN9 hi9 he9 hyn K3 (Or.inl (by simp only [List.mem_cons, List.not_mem_nil, or_false, not_or]; omega)) hNl (by omega) (by omega) (by omega) O3 W3 D3 L3 hgl (by omega) hA2) M3 cl_X7 rfl kx_1555 kx_1557 kxp_34 kx_24 kx_1558 (by decide +kernel) rfl (by decide) (Nat.le_of_ble_eq_true rfl) rfl dX7_unlocks_213 rfl (fun z4 T4 y4 => ?_)
                        rw [Nat.add_sub_cancel_left, ← hGD, ← hLK] at y4
                        have er2 : rnS GD LK ln (bytL gl lf ln) (bytL gl lf ln) 0 q.1 [] [] = rnW GD LK (bytL gl lf ln) q.1 := by unfold rnW; rw [bytL_len]
                        rw [er2] at y4
                        cases hr2 : rnW GD LK (bytL gl lf ln) q.1 with
                        | none =>
                          rw [hr2] at y4
                          obtain ⟨rfl, F4⟩ := y4
                          refine ks_if_eqZ (tgt := 229) dX7_unlocks_216 (by decide) rfl (fun h4 => ?_) (fun h4 => ?_)
                          · refine ks_iconst (x := nI 0) dX7_unlocks_229 (by decide) rfl ?_
                            refine ks_zret rfl rfl dX7_unlocks_230 ?_
                            have eU : ulS GD LK si (bytL gl lf ln) = false := by
                              unfold ulS
                              rw [hr1]
                              simp only []
                              rw [if_neg nh, hr2]
                            rw [eU]
                            exact ⟨rfl, u3.trans F4.1, F4.z⟩
                          · exact absurd h4 (by decide)
                        | some r =>
                          rw [hr2] at y4
                          obtain ⟨rfl, F4, v4, uB, hB0, hB1, hB2, O4⟩ := y4
                          have u4 : ks_up S T4 LRn := u3.trans F4.1
                          have Z4 := F4.z
                          obtain ⟨-, W4, -, D4, vc4, n1, n2, n3, n4, n5, n6, o1, o2, o3, o4, M4⟩ := F4
                          refine ks_if_eqZ (tgt := 229) dX7_unlocks_216 (by decide) rfl (fun h4 => ?_) (fun h4 => ?_)
                          · exact absurd h4 (by decide)
                          · refine ks_aload_n dX7_unlocks_219 rfl rfl ?_
                            refine ks_getf (T := TX7) (kf := 3) kx_646 rfl in_X7 cl_X7 (by decide) M4 rfl dX7_unlocks_220 rfl ?_
                            refine ks_callV (n := 0) (M' := mX8_isTopTrue) (c_st_isTopTrue (d := d + 6) O4) O4.ob cl_X8 rfl kx_1571 kx_1572 kx_1573 kx_25 kx_1574 (by decide +kernel) rfl (by decide) (Nat.le_of_ble_eq_true rfl) rfl dX7_unlocks_223 rfl (fun z5 T5 y5 => ?_)
                            obtain ⟨rfl, hT⟩ := y5
                            obtain rfl := hT.symm
                            refine ks_if_neZ (tgt := 231) dX7_unlocks_226 (by decide) rfl (fun h5 => ?_) (fun h5 => ?_)
                            · refine ks_iload dX7_unlocks_231 rfl rfl ?_
                              refine ks_if_neN (tgt := 238) (by decide) dX7_unlocks_233 (by decide) rfl (fun h6 => ?_) (fun h6 => ?_)
                              · have hrl : 0 < r.1.length := topTr_len h5
                                obtain ⟨ar4, b1, b2, b3⟩ := v4.2 ar h30 kar
                                refine ks_aload_n dX7_unlocks_238 rfl rfl ?_
                                refine ks_getf (T := TX7) (kf := 3) kx_646 rfl in_X7 cl_X7 (by decide) M4 rfl dX7_unlocks_239 rfl ?_
                                refine ks_iconst (x := nI 1) dX7_unlocks_242 (by decide) rfl ?_
                                refine ks_callV (n := 1) (M' := mX8_drop) (c_st_drop (d := d + 6) (c := 1) O4 hrl) O4.ob cl_X8 rfl kx_1575 kx_1576 kx_1577 kx_25 kx_1578 (by decide +kernel) rfl (by decide) (Nat.le_of_ble_eq_true rfl) rfl dX7_unlocks_243 rfl (fun z7 T7 y7 => ?_)
                                obtain ⟨rfl, v7, O7⟩ := y7
                                have u7 : ks_up S T7 LRn := u4.trans (v7.1.mono (by decide))
                                have M7 := v7.1.at M4 (by decide)
                                have W7 : mcW T7 := W4.up v7.1 (by decide)
                                obtain ⟨dn4, hdn4⟩ := D4
                                have D7 : ∃ dn, T7.2.2 36 = some (kZ 202 dn) := ⟨dn4, v7.1.at hdn4 (by decide)⟩
                                obtain ⟨ar7, c1, c2, c3⟩ := v7.2 ar4 b1 b2
                                have V7 := hV.up u7 (by decide)
                                have Y7 := u7.at hy9 (by simp only [List.mem_cons, List.not_mem_nil, or_false, not_or]; omega)
                                have K7 := u7.st hK (by unfold ks_B; decide)
                                have ein : bytL ar7 (fa (q.1.length - 1)) (fc (q.1.length - 1)) = q.1.getD 0 [] := by
                                  rw [x1]
                                  exact bytL_congr (fun j hj => (c3 _ (by omega)).trans (b3 _ (by omega)))
                                refine ks_pop dX7_unlocks_246 rfl rfl ?_
                                refine ks_aload_n dX7_unlocks_247 rfl rfl ?_
                                refine ks_aload_n dX7_unlocks_248 rfl rfl ?_
                                refine ks_getf (T := TX7) (kf := 3) kx_646 rfl in_X7 cl_X7 (by decide) M7 rfl dX7_unlocks_249 rfl ?_
                                refine ks_getf (T := TX8) (kf := 0) kx_609 rfl in_X8 cl_X8 (by decide) O7.ob rfl dX7_unlocks_252 rfl ?_
                                refine ks_iload dX7_unlocks_255 rfl rfl ?_
                                refine ks_iload dX7_unlocks_257 rfl rfl ?_
                                refine ks_iload dX7_unlocks_259 rfl rfl ?_
                                refine ks_addN dX7_unlocks_261 rfl ?_
                                refine ks_callV (n := 3) (M' := mX7_run) (c_mc_run (d := d) (u0 := uB) M7 hma V7 Y7 hg9 hL9 hN9 hi9 he9 hyn K7 (Or.inr ⟨rfl, rfl, by omega⟩) (by decide) (by omega) (by omega) (by omega) O7 W7 D7 c1 c2 (by omega) (by rw [List.length_drop]; omega)) M7 cl_X7 rfl kx_1555 kx_1557 kxp_34 kx_24 kx_1558 (by decide +kernel) rfl (by decide) (Nat.le_of_ble_eq_true rfl) rfl dX7_unlocks_262 rfl (fun z8 T8 y8 => ?_)
                                rw [Nat.add_sub_cancel_left, ← hGD, ← hLK, ein] at y8
                                have er3 : rnS GD LK (fc (q.1.length - 1)) (q.1.getD 0 []) (q.1.getD 0 []) 0 (r.1.drop 1) [] [] = rnW GD LK (q.1.getD 0 []) (r.1.drop 1) := by unfold rnW; rw [x2]
                                rw [er3] at y8
                                have eU9 : ulS GD LK si (bytL gl lf ln) = match rnW GD LK (q.1.getD 0 []) (r.1.drop 1) with
                                    | none => false
                                    | some t => topTr t.1 := by
                                  unfold ulS
                                  rw [hr1]
                                  simp only []
                                  rw [if_neg nh, hr2]
                                  simp only []
                                  rw [if_neg (by rw [h5]; decide), if_neg (by rw [hps]; decide)]
                                rw [eU9]
                                cases hr3 : rnW GD LK (q.1.getD 0 []) (r.1.drop 1) with
                                | none =>
                                  rw [hr3] at y8
                                  obtain ⟨rfl, F8⟩ := y8
                                  refine ks_if_eqZ (tgt := 282) dX7_unlocks_265 (by decide) rfl (fun h8 => ?_) (fun h8 => ?_)
                                  · refine ks_iconst (x := nI 0) dX7_unlocks_282 (by decide) rfl ?_
                                    refine ks_zret rfl rfl dX7_unlocks_283 ?_
                                    exact ⟨rfl, u7.trans F8.1, F8.z⟩
                                  · exact absurd h8 (by decide)
                                | some t =>
                                  rw [hr3] at y8
                                  obtain ⟨rfl, F8, v8, uC, hC0, hC1, hC2, O8⟩ := y8
                                  have u8 : ks_up S T8 LRn := u7.trans F8.1
                                  have Z8 := F8.z
                                  obtain ⟨-, W8, -, D8, vc8, n1, n2, n3, n4, n5, n6, o1, o2, o3, o4, M8⟩ := F8
                                  refine ks_if_eqZ (tgt := 282) dX7_unlocks_265 (by decide) rfl (fun h8 => ?_) (fun h8 => ?_)
                                  · exact absurd h8 (by decide)
                                  · refine ks_aload_n dX7_unlocks_268 rfl rfl ?_
                                    refine ks_getf (T := TX7) (kf := 3) kx_646 rfl in_X7 cl_X7 (by decide) M8 rfl dX7_unlocks_269 rfl ?_
                                    refine ks_callV (n := 0) (M' := mX8_isTopTrue) (c_st_isTopTrue (d := d + 6) O8) O8.ob cl_X8 rfl kx_1571 kx_1572 kx_1573 kx_25 kx_1574 (by decide +kernel) rfl (by decide) (Nat.le_of_ble_eq_true rfl) rfl dX7_unlocks_272 rfl (fun z9 T9 y9_ => ?_)
                                    obtain ⟨rfl, hT⟩ := y9_
                                    obtain rfl := hT.symm
                                    refine ks_if_eqZ (tgt := 282) dX7_unlocks_275 (by decide) rfl (fun h9 => ?_) (fun h9 => ?_)
                                    · refine ks_iconst (x := nI 0) dX7_unlocks_282 (by decide) rfl ?_
                                      refine ks_zret rfl rfl dX7_unlocks_283 ?_
                                      simp only []
                                      rw [h9]
                                      exact ⟨rfl, u8, Z8⟩
                                    · refine ks_iconst (x := nI 1) dX7_unlocks_278 (by decide) rfl ?_
                                      refine ks_goto (tgt := 283) dX7_unlocks_279 (by decide) ?_
                                      refine ks_zret rfl rfl dX7_unlocks_283 ?_
                                      simp only []
                                      rw [h9]
                                      exact ⟨rfl, u8, Z8⟩
                              · exact absurd h6 (by decide)
                            · refine ks_iconst (x := nI 0) dX7_unlocks_229 (by decide) rfl ?_
                              refine ks_zret rfl rfl dX7_unlocks_230 ?_
                              have eU : ulS GD LK si (bytL gl lf ln) = false := by
                                unfold ulS
                                rw [hr1]
                                simp only []
                                rw [if_neg nh, hr2]
                                simp only []
                                rw [if_pos h5]
                              rw [eU]
                              exact ⟨rfl, u4, Z4⟩
                  · refine ks_iconst (x := nI 0) dX7_unlocks_146 (by decide) rfl ?_
                    refine ks_zret rfl rfl dX7_unlocks_147 ?_
                    have eU : ulS GD LK si (bytL gl lf ln) = false := by
                      unfold ulS
                      rw [hr1]
                      simp only []
                      rw [if_pos ⟨hps, Or.inr h4⟩]
                    rw [eU]
                    exact ⟨rfl, u3, Z3⟩
    · exact absurd h1 (by decide)
