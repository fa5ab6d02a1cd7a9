/-! MACHINE: the code that is signed by hand (no signatures to leave out) -/
set_option maxRecDepth 100000 in
set_option maxHeartbeats 800000 in
theorem c_mc_pushes0 {l : Launch} {G : ks_G} {d : Nat} {S : ks_S} {y pos nx : Nat} {g : Nat → Nat} : ks_P l G yX7_pushesSignature mX7_pushesSignature d [.ref 27, .ref y, .int (nI pos), .int (nI nx), .int (nI 0)] S (fun z S' => z = some (.int (ks_bo (anySg (g pos) (bytL g (pos + hdS (g pos)) (nx - pos - hdS (g pos))) []))) ∧ S' = S) := by
  refine ks_of (by decide) rfl rfl (Nat.le_of_ble_eq_true rfl) ?_
  show ks_X l G mX7_pushesSignature d 0 [(0, .ref 27), (1, .ref y), (2, .int (nI pos)), (3, .int (nI nx)), (4, .int (nI 0))] [] S _
  refine ks_iconst (x := nI 0) dX7_pushesSignature_0 (by decide) rfl ?_
  refine ks_istore dX7_pushesSignature_1 (by decide) rfl ?_
  refine ks_sub [(5, _), (0, _), (1, _), (2, _), (3, _), (4, _)] rfl ?_
  refine ks_iload dX7_pushesSignature_3 rfl rfl ?_
  refine ks_iload dX7_pushesSignature_5 rfl rfl ?_
  refine ks_icmp_geN (tgt := 162) (by decide) (by decide) dX7_pushesSignature_7 (by decide) rfl (fun _ => ?_) (fun h => absurd h (by decide))
  refine ks_iconst (x := nI 0) dX7_pushesSignature_162 (by decide) rfl ?_
  refine ks_zret rfl rfl dX7_pushesSignature_163 ?_
  exact ⟨rfl, rfl⟩
set_option maxRecDepth 100000 in
set_option maxHeartbeats 2000000 in
theorem c_mc_cleanCode0 {l : Launch} {G : ks_G} {d : Nat} {S : ks_S} {vs : List Value} (hM : S.2.2 27 = some (.inr (10, .ref 28 :: .ref 7 :: .ref 14 :: .ref 29 :: .ref 36 :: .ref 37 :: .ref 39 :: vs))) {xs ys : List (List Nat)} {u : Nat} (hO : st_ok S xs ys u) {y N s e : Nat} {g : Nat → Nat} {ob : Option (List Nat)} (hy : S.2.2 y = some (kB N g)) (hg : kO g) (hN : N < 2 ^ 20) (hse : s ≤ e) (he : e ≤ N) (hes : e - s ≤ 1600) (hyn : y ∉ ([38, 37] : List Nat)) (hB : bfS S 37 38 1600 ob) : ks_P l G yX7_cleanCode mX7_cleanCode (d + 2) [.ref 27, .ref y, .int (nI s), .int (nI e), .int (nI 0)] S (fun z S' => z = none ∧ ks_up S S' [38, 37] ∧ bfS S' 37 38 1600 (some (cln_ [] (bytL g s (e - s))))) := by
  have tail : ∀ (S1 : ks_S) (M : List Nat) (p : Nat), s ≤ p → p ≤ e → M.length + (e - p) ≤ 1600 → ks_up S S1 [38, 37] → bfS S1 37 38 1600 (some M) → ks_X l G mX7_cleanCode (d + 2) 95 [(0, .ref 27), (1, .ref y), (3, .int (nI e)), (5, .int (nI p))] [] S1 (fun z S' => z = none ∧ ks_up S S' [38, 37] ∧ bfS S' 37 38 1600 (some (M ++ bytL g p (e - p)))) := by
    intro S1 M p hsp hpe hM9 hu hB1
    have hM1 := hu.at hM (by decide)
    have hy1 := hu.at hy hyn
    have hO1 := hO.up hu (by decide)
    refine ks_aload_n dX7_cleanCode_95 rfl rfl ?_
    refine ks_getf (T := TX7) (kf := 5) kx_648 rfl in_X7 cl_X7 (by decide) hM1 rfl dX7_cleanCode_96 rfl ?_
    refine ks_aload_n dX7_cleanCode_99 rfl rfl ?_
    refine ks_iload dX7_cleanCode_100 rfl rfl ?_
    refine ks_iload_n dX7_cleanCode_102 rfl rfl ?_
    refine ks_iload dX7_cleanCode_103 rfl rfl ?_
    refine ks_subN (by omega) dX7_cleanCode_105 rfl ?_
    refine ks_callV (n := 3) (M' := mX1_addBytes) (bf_bytes (d := d) (i := p) (n := e - p) hB1 (by decide) hy1 hg (by omega) (by omega)) (hB1.ob) cl_X1 rfl kx_1342 kx_872 kx_873 kx_2 kx_874 (by decide +kernel) rfl (by decide) (Nat.le_of_ble_eq_true rfl) rfl dX7_cleanCode_106 rfl (fun r2 T2 q2 => ?_)
    obtain ⟨rfl, u2, b2⟩ := q2
    rw [bfA_fit (by rw [bytL_len]; exact hM9)] at b2
    refine ks_ret rfl dX7_cleanCode_109 ?_
    exact ⟨rfl, hu.trans u2, b2⟩
  have loop : ∀ f p i (S1 : ks_S) (M : List Nat), e - p ≤ f → i ≤ p → s ≤ p → p ≤ e → M.length + (e - p) ≤ 1600 → ks_up S S1 [38, 37] → bfS S1 37 38 1600 (some M) → ks_X l G mX7_cleanCode (d + 2) 13 [(0, .ref 27), (1, .ref y), (3, .int (nI e)), (4, .int (nI 0)), (5, .int (nI p)), (6, .int (nI i))] [] S1 (fun z S' => z = none ∧ ks_up S S' [38, 37] ∧ bfS S' 37 38 1600 (some (M ++ clnN f [] (bytL g p (e - p))))) := by
    intro f
    induction f with
    | zero =>
      intro p i S1 M hf hi hsp hpe hM9 hu hB1
      have hM1 := hu.at hM (by decide)
      have hy1 := hu.at hy hyn
      have hO1 := hO.up hu (by decide)
      rw [show clnN 0 [] (bytL g p (e - p)) = bytL g p (e - p) from rfl]
      refine ks_iload dX7_cleanCode_13 rfl rfl ?_
      refine ks_iload_n dX7_cleanCode_15 rfl rfl ?_
      refine ks_icmp_geN (tgt := 95) (by omega) (by omega) dX7_cleanCode_16 (by decide) rfl (fun h1 => ?_) (fun h1 => ?_)
      · refine ks_sub [(0, _), (1, _), (3, _), (5, _)] rfl ?_
        exact ks_sub [(0, _), (1, _), (3, _), (5, _)] rfl (tail S1 M p hsp hpe hM9 hu hB1)
      · refine ks_iload dX7_cleanCode_19 rfl rfl ?_
        refine ks_iload_n dX7_cleanCode_21 rfl rfl ?_
        refine ks_icmp_geN (tgt := 95) (by omega) (by omega) dX7_cleanCode_22 (by decide) rfl (fun h2 => ?_) (fun h2 => ?_)
        · refine ks_sub [(0, _), (1, _), (3, _), (5, _)] rfl ?_
          exact ks_sub [(0, _), (1, _), (3, _), (5, _)] rfl (tail S1 M p hsp hpe hM9 hu hB1)
        · omega
    | succ f ih =>
      intro p i S1 M hf hi hsp hpe hM9 hu hB1
      have hM1 := hu.at hM (by decide)
      have hy1 := hu.at hy hyn
      have hO1 := hO.up hu (by decide)
      refine ks_iload dX7_cleanCode_13 rfl rfl ?_
      refine ks_iload_n dX7_cleanCode_15 rfl rfl ?_
      refine ks_icmp_geN (tgt := 95) (by omega) (by omega) dX7_cleanCode_16 (by decide) rfl (fun h1 => ?_) (fun h1 => ?_)
      · have e0 : e - p = 0 := by omega
        have e1 : clnN (f + 1) [] (bytL g p (e - p)) = bytL g p (e - p) := by rw [e0]; rfl
        rw [e1]
        refine ks_sub [(0, _), (1, _), (3, _), (5, _)] rfl ?_
        exact ks_sub [(0, _), (1, _), (3, _), (5, _)] rfl (tail S1 M p hsp hpe hM9 hu hB1)
      · refine ks_iload dX7_cleanCode_19 rfl rfl ?_
        refine ks_iload_n dX7_cleanCode_21 rfl rfl ?_
        refine ks_icmp_geN (tgt := 95) (by omega) (by omega) dX7_cleanCode_22 (by decide) rfl (fun h2 => ?_) (fun h2 => ?_)
        · have e0 : e - p = 0 := by omega
          have e1 : clnN (f + 1) [] (bytL g p (e - p)) = bytL g p (e - p) := by rw [e0]; rfl
          rw [e1]
          refine ks_sub [(0, _), (1, _), (3, _), (5, _)] rfl ?_
          exact ks_sub [(0, _), (1, _), (3, _), (5, _)] rfl (tail S1 M p hsp hpe hM9 hu hB1)
        · refine ks_aload_n dX7_cleanCode_25 rfl rfl ?_
          refine ks_iload dX7_cleanCode_26 rfl rfl ?_
          refine ks_iload_n dX7_cleanCode_28 rfl rfl ?_
          refine ks_callS (n := 3) (M' := mX7_after) (c_after (d := d) hy1 hg hN he (by omega)) kx_1331 kx_1332 kx_24 kx_1333 (by decide +kernel) rfl (by decide) (Nat.le_of_ble_eq_true rfl) rfl dX7_cleanCode_29 rfl (fun r2 T2 q2 => ?_)
          obtain ⟨rfl, hS2⟩ := q2
          obtain rfl := hS2.symm
          rcases aftI_cases g p e with ⟨a1, a2⟩ | ⟨k, a1, a2, a3, a4, a5⟩
          · rw [a2]
            refine ks_istore dX7_cleanCode_32 (by decide) rfl ?_
            refine ks_sub [(7, _), (0, _), (1, _), (3, _), (4, _), (5, _), (6, _)] rfl ?_
            refine ks_iload dX7_cleanCode_34 rfl rfl ?_
            refine ks_if_ge (tgt := 42) dX7_cleanCode_36 (by decide) rfl (fun h3 => ?_) (fun h3 => ?_)
            · exact absurd (show ((-1 : Int32) < 0) by decide) (by first | exact h3 | exact Int32.not_lt.mpr h3)
            · refine ks_goto (tgt := 95) dX7_cleanCode_39 (by decide) ?_
              have e1 : clnN (f + 1) [] (bytL g p (e - p)) = bytL g p (e - p) := by unfold clnN; rw [a1]
              rw [e1]
              refine ks_sub [(0, _), (1, _), (3, _), (5, _)] rfl ?_
              exact ks_sub [(0, _), (1, _), (3, _), (5, _)] rfl (tail S1 M p hsp hpe hM9 hu hB1)
          · rw [a2]
            have e1 : clnN (f + 1) [] (bytL g p (e - p)) = (if g p = 171 ∨ anySg (g p) (bytL g (p + hdS (g p)) (p + k - p - hdS (g p))) [] = true then [] else bytL g p k) ++ clnN f [] (bytL g (p + k) (e - (p + k))) := by
              rw [clnN, a1]
              simp only []
              rw [bytL_head g (by omega), bytL_take _ _ a4, bytL_drop _ _ a4, bytL_drop _ _ a5, show p + k - p - hdS (g p) = k - hdS (g p) by omega, show e - p - k = e - (p + k) by omega]
            rw [e1]
            refine ks_istore dX7_cleanCode_32 (by decide) rfl ?_
            refine ks_sub [(7, _), (0, _), (1, _), (3, _), (4, _), (5, _), (6, _)] rfl ?_
            refine ks_iload dX7_cleanCode_34 rfl rfl ?_
            refine ks_if_geN (tgt := 42) (by omega) dX7_cleanCode_36 (by decide) ?_
            refine ks_aload_n dX7_cleanCode_42 rfl rfl ?_
            refine ks_iload dX7_cleanCode_43 rfl rfl ?_
            refine ks_baldB (i := p) hy1 rfl (by omega) (by omega) dX7_cleanCode_45 rfl ?_
            refine ks_sipush (x := nI 255) dX7_cleanCode_46 (by decide) rfl ?_
            refine ks_andB (hg _) dX7_cleanCode_49 rfl ?_
            have hy49 : g p < 256 := (hg _)
            refine ks_sipush (x := nI 171) dX7_cleanCode_50 (by decide) rfl ?_
            refine ks_icmp_eqN (tgt := 85) (by omega) (by decide) dX7_cleanCode_53 (by decide) rfl (fun h4 => ?_) (fun h4 => ?_)
            · refine ks_iload dX7_cleanCode_85 rfl rfl ?_
              refine ks_istore dX7_cleanCode_87 (by decide) rfl ?_
              refine ks_sub [(5, _), (0, _), (1, _), (3, _), (4, _), (6, _), (7, _)] rfl ?_
              refine ks_incN (c := 1) (e := i + 1) dX7_cleanCode_89 rfl (by decide) rfl (by decide) rfl ?_
              refine ks_sub [(6, _), (0, _), (1, _), (3, _), (4, _), (5, _), (7, _)] rfl ?_
              refine ks_goto (tgt := 13) dX7_cleanCode_92 (by decide) ?_
              refine ks_sub [(0, _), (1, _), (3, _), (4, _), (5, _), (6, _)] rfl ?_
              rw [if_pos (Or.inl h4), List.nil_append]
              exact ks_sub [(0, _), (1, _), (3, _), (4, _), (5, _), (6, _)] rfl (ih (p + k) (i + 1) S1 M (by omega) (by omega) (by omega) (by omega) (by omega) hu hB1)
            · refine ks_aload_n dX7_cleanCode_56 rfl rfl ?_
              refine ks_aload_n dX7_cleanCode_57 rfl rfl ?_
              refine ks_iload dX7_cleanCode_58 rfl rfl ?_
              refine ks_iload dX7_cleanCode_60 rfl rfl ?_
              refine ks_iload dX7_cleanCode_62 rfl rfl ?_
              refine ks_callV (n := 4) (M' := mX7_pushesSignature) (c_mc_pushes0 (d := d + 1) (pos := p) (nx := p + k) (g := g)) hM1 cl_X7 rfl kx_1338 kx_1340 kxp_22 kx_24 kx_1341 (by decide +kernel) rfl (by decide) (Nat.le_of_ble_eq_true rfl) rfl dX7_cleanCode_64 rfl (fun r3 T3 q3 => ?_)
              obtain ⟨rfl, hS3⟩ := q3
              obtain rfl := hS3.symm
              refine ks_if_neZ (tgt := 85) dX7_cleanCode_67 (by decide) rfl (fun h5 => ?_) (fun h5 => ?_)
              · refine ks_iload dX7_cleanCode_85 rfl rfl ?_
                refine ks_istore dX7_cleanCode_87 (by decide) rfl ?_
                refine ks_sub [(5, _), (0, _), (1, _), (3, _), (4, _), (6, _), (7, _)] rfl ?_
                refine ks_incN (c := 1) (e := i + 1) dX7_cleanCode_89 rfl (by decide) rfl (by decide) rfl ?_
                refine ks_sub [(6, _), (0, _), (1, _), (3, _), (4, _), (5, _), (7, _)] rfl ?_
                refine ks_goto (tgt := 13) dX7_cleanCode_92 (by decide) ?_
                refine ks_sub [(0, _), (1, _), (3, _), (4, _), (5, _), (6, _)] rfl ?_
                rw [if_pos (Or.inr h5), List.nil_append]
                exact ks_sub [(0, _), (1, _), (3, _), (4, _), (5, _), (6, _)] rfl (ih (p + k) (i + 1) S1 M (by omega) (by omega) (by omega) (by omega) (by omega) hu hB1)
              · refine ks_aload_n dX7_cleanCode_70 rfl rfl ?_
                refine ks_getf (T := TX7) (kf := 5) kx_648 rfl in_X7 cl_X7 (by decide) hM1 rfl dX7_cleanCode_71 rfl ?_
                refine ks_aload_n dX7_cleanCode_74 rfl rfl ?_
                refine ks_iload dX7_cleanCode_75 rfl rfl ?_
                refine ks_iload dX7_cleanCode_77 rfl rfl ?_
                refine ks_iload dX7_cleanCode_79 rfl rfl ?_
                refine ks_subN (by omega) dX7_cleanCode_81 rfl ?_
                refine ks_callV (n := 3) (M' := mX1_addBytes) (bf_bytes (d := d) (i := p) (n := p + k - p) hB1 (by decide) hy1 hg (by omega) (by omega)) (hB1.ob) cl_X1 rfl kx_1342 kx_872 kx_873 kx_2 kx_874 (by decide +kernel) rfl (by decide) (Nat.le_of_ble_eq_true rfl) rfl dX7_cleanCode_82 rfl (fun r4 T4 q4 => ?_)
                obtain ⟨rfl, u4, b4⟩ := q4
                rw [show p + k - p = k by omega] at b4
                rw [bfA_fit (by rw [bytL_len]; omega)] at b4
                refine ks_iload dX7_cleanCode_85 rfl rfl ?_
                refine ks_istore dX7_cleanCode_87 (by decide) rfl ?_
                refine ks_sub [(5, _), (0, _), (1, _), (3, _), (4, _), (6, _), (7, _)] rfl ?_
                refine ks_incN (c := 1) (e := i + 1) dX7_cleanCode_89 rfl (by decide) rfl (by decide) rfl ?_
                refine ks_sub [(6, _), (0, _), (1, _), (3, _), (4, _), (5, _), (7, _)] rfl ?_
                refine ks_goto (tgt := 13) dX7_cleanCode_92 (by decide) ?_
                refine ks_sub [(0, _), (1, _), (3, _), (4, _), (5, _), (6, _)] rfl ?_
                rw [if_neg (by rintro (h | h); exact h4 h; rw [h] at h5; cases h5), ← List.append_assoc]
                exact ks_sub [(0, _), (1, _), (3, _), (4, _), (5, _), (6, _)] rfl (ih (p + k) (i + 1) T4 (M ++ bytL g p k) (by omega) (by omega) (by omega) (by omega) (by rw [List.length_append, bytL_len]; omega) (hu.trans u4) b4)
  refine ks_of (by decide) rfl rfl (Nat.le_of_ble_eq_true rfl) ?_
  show ks_X l G mX7_cleanCode (d + 2) 0 [(0, .ref 27), (1, .ref y), (2, .int (nI s)), (3, .int (nI e)), (4, .int (nI 0))] [] S _
  refine ks_aload_n dX7_cleanCode_0 rfl rfl ?_
  refine ks_getf (T := TX7) (kf := 5) kx_648 rfl in_X7 cl_X7 (by decide) hM rfl dX7_cleanCode_1 rfl ?_
  refine ks_callV (n := 0) (M' := mX1_clear) (bf_clear (d := d + 1) hB) (hB.choose_spec.choose_spec.2.2.2.1) cl_X1 rfl kx_1330 kx_843 kx_844 kx_2 kx_845 (by decide +kernel) rfl (by decide) (Nat.le_of_ble_eq_true rfl) rfl dX7_cleanCode_4 rfl (fun r2 T2 q2 => ?_)
  obtain ⟨rfl, u2, b2⟩ := q2
  refine ks_iload_n dX7_cleanCode_7 rfl rfl ?_
  refine ks_istore dX7_cleanCode_8 (by decide) rfl ?_
  refine ks_sub [(5, _), (0, _), (1, _), (2, _), (3, _), (4, _)] rfl ?_
  refine ks_iload_n dX7_cleanCode_10 rfl rfl ?_
  refine ks_istore dX7_cleanCode_11 (by decide) rfl ?_
  refine ks_sub [(6, _), (0, _), (1, _), (2, _), (3, _), (4, _), (5, _)] rfl ?_
  refine ks_sub [(0, _), (1, _), (3, _), (4, _), (5, _), (6, _)] rfl ?_
  have h9 := loop (e - s) s s T2 [] (Nat.le_refl _) (Nat.le_refl _) (Nat.le_refl _) hse (by simpa using hes) u2 b2
  rw [List.nil_append] at h9
  unfold cln_
  rw [bytL_len]
  exact ks_sub [(0, _), (1, _), (3, _), (4, _), (5, _), (6, _)] rfl h9

