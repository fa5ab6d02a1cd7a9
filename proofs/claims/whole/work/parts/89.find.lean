/-! CHAIN: coins are found -/
def inA (M : List Nat) (t i : Nat) : Nat := iA (mg M) M.length (txP M t).2.1 i
/-- the place of the coin of input i, and one more -/
def fiP (B : Nat → Bk) (M : List Nat) (t : Nat) (L : List Nat) (i : Nat) : Nat := plL B (nI (ks_num (mg M) (inA M t i + 32) 4)) (fun j => mg M (inA M t i + j)) L
def cnY (B : Nat → Bk) (h c : Nat) : Prop := c / 2 ^ 19 % 16 = 0 ∧ h - bkH (B (c / 2 ^ 23)) < 3
/-- the reason, and the sum -/
def fcF (B : Nat → Bk) (M : List Nat) (t h : Nat) (L : List Nat) : Nat → Nat → Nat → Nat × Nat
  | 0, _, s => (0, s)
  | u + 1, i, s => if fiP B M t L i = 0 then (11, s) else if L.getD (fiP B M t L i - 1) 0 / 2 ^ 19 % 16 = 0 ∧ h - bkH (B (L.getD (fiP B M t L i - 1) 0 / 2 ^ 23)) < 3 then (12, s) else if 2100000000000000 < s + cnV B (L.getD (fiP B M t L i - 1) 0) then (13, s + cnV B (L.getD (fiP B M t L i - 1) 0)) else fcF B M t h L u (i + 1) (s + cnV B (L.getD (fiP B M t L i - 1) 0))
theorem neg_lt3 {a b : Nat} (h : a < b) (hb : b < 2 ^ 30) : nI a - nI b < nI 3 := by
  have e : nI a - nI b = Int32.ofInt ((a : Int) - b) := (Int32.ofInt_sub a b).symm
  rw [e, Int32.lt_iff_toInt_lt, Int32.toInt_ofInt_of_le (by omega) (by omega)]
  rw [show (nI 3).toInt = 3 from rfl]
  omega
set_option maxRecDepth 100000 in
set_option maxHeartbeats 800000 in
theorem c_ch_findCoins {l : Launch} {G : ks_G} {d : Nat} {S : ks_S} {n best : Nat} {tk : Int64} {B : Nat → Bk} {L : List Nat} {f51 : Nat → Nat} (hX : chX S n best (nI L.length) tk B) (hL : coS S L) (hl4 : L.length ≤ 400) (hf : ∀ i, i < L.length → cnR n B (L.getD i 0)) (hv : ∀ i, i < L.length → cnV B (L.getD i 0) ≤ 2100000000000000) {y9 a9 t h : Nat} {Mb : List Nat} {g9 : Nat → Nat} (hbl : blk_ (mg Mb) Mb.length = true) (h16 : Mb.length ≤ 1600) (ht : t < mg Mb 80) (hV : tv_ok S y9 g9 Mb.length a9 (txP Mb t).1 (txP Mb t).2.1 (txP Mb t).2.2.1 (txP Mb t).2.2.2.1 (txP Mb t).2.2.2.2) (hy9 : S.2.2 y9 = some (kB 1600 g9)) (hg9 : kO g9) (hyn : 56 ≤ y9) (eg9 : ∀ j, j < Mb.length → g9 j = mg Mb j) (hh : h < 2 ^ 30) (hhei : ∀ i, i < n → bkH (B i) < 2 ^ 30) (h51 : S.2.2 51 = some (kN 40 f51)) : ks_P l G yX2_findCoins mX2_findCoins (d + 2) [.ref 41, .int (nI h)] S (fun z S' => z = some (.int (nI (fcF B Mb t h L (txP Mb t).1 0 0).1)) ∧ ks_up S S' [41, 51] ∧ chX S' n best (nI L.length) (lN (fcF B Mb t h L (txP Mb t).1 0 0).2) B ∧ ∃ ff, S'.2.2 51 = some (kN 40 ff) ∧ ((fcF B Mb t h L (txP Mb t).1 0 0).1 = 0 → (fcF B Mb t h L (txP Mb t).1 0 0).2 ≤ 2100000000000000 ∧ ∀ i, i < (txP Mb t).1 → fiP B Mb t L i ≠ 0 ∧ ff i = fiP B Mb t L i - 1)) := by
  have hn60 := hX.2.2.2
  have tx6 := bk_tx5 hbl ht
  have q8 := tx_bd tx6
  obtain ⟨R, hR⟩ : ∃ R, fcF B Mb t h L (txP Mb t).1 0 0 = R := ⟨_, rfl⟩
  rw [hR]
  obtain ⟨fA, fS, fZ, hA, hS, hZ, h21, h22, h23, h24, h25, h26, hI, hU⟩ := tv_get hV
  obtain ⟨kn, hkn⟩ : ∃ m, (txP Mb t).1 = m := ⟨_, rfl⟩
  rw [hkn] at hR q8 ⊢
  have eA : ∀ i, i < kn → fA i = inA Mb t i := fun i hi => by rw [(hI i (by omega)).1, iA_c eg9]; rfl
  have bA : ∀ i, i < kn → inA Mb t i + 41 ≤ Mb.length := fun i hi => by
    have := tx_in tx6 i (by omega)
    unfold inA
    omega
  have loop : ∀ (u i s : Nat) (S1 : ks_S) (ff : Nat → Nat), i + u = kn → s ≤ 2100000000000000 → fcF B Mb t h L u i s = R → ks_up S S1 [41, 51] → chX S1 n best (nI L.length) (lN s) B → S1.2.2 51 = some (kN 40 ff) → (∀ j, j < i → fiP B Mb t L j ≠ 0 ∧ ff j = fiP B Mb t L j - 1) → ks_X l G mX2_findCoins (d + 2) 7 [(0, .ref 41), (1, .int (nI h)), (2, .int (nI i))] [] S1 (fun z S' => z = some (.int (nI R.1)) ∧ ks_up S S' [41, 51] ∧ chX S' n best (nI L.length) (lN R.2) B ∧ ∃ ff, S'.2.2 51 = some (kN 40 ff) ∧ (R.1 = 0 → R.2 ≤ 2100000000000000 ∧ ∀ i, i < kn → fiP B Mb t L i ≠ 0 ∧ ff i = fiP B Mb t L i - 1)) := by
    intro u
    induction u with
    | zero =>
      intro i s S1 ff hiu hs hr hu X1 v51 hff
      obtain ⟨hO, ⟨bf, h42, hbf⟩, hB, -⟩ := id X1
      have V1 := hu.at hV.1 (by decide)
      rw [hkn] at V1
      have v21 := hu.at h21 (by decide)
      have Y1 := hu.at hy9 (by simp only [List.mem_cons, List.not_mem_nil, or_false]; omega)
      have C1 : coS S1 L := hL.up hu (by decide)
      obtain ⟨f, h50, hl58, hf5⟩ := id C1
      refine ks_iload_n dX2_findCoins_7 rfl rfl ?_
      refine ks_aload_n dX2_findCoins_8 rfl rfl ?_
      refine ks_getf (T := TX2) (kf := 7) kx_741 rfl in_X2 cl_X2 (by decide) hO rfl dX2_findCoins_9 rfl ?_
      refine ks_getf (T := TX10) (kf := 1) kx_558 rfl in_X10 cl_X10 (by decide) V1 rfl dX2_findCoins_12 rfl ?_
      refine ks_icmp_geN (tgt := 160) (by omega) (by omega) dX2_findCoins_15 (by decide) rfl (fun h1 => ?_) (fun h1 => ?_)
      · refine ks_iconst (x := nI 0) dX2_findCoins_160 (by decide) rfl ?_
        refine ks_iret rfl dX2_findCoins_161 ?_
        obtain rfl : i = kn := by omega
        have e9 : R = (0, s) := hr.symm
        rw [e9]
        exact ⟨rfl, hu, X1, ff, v51, fun _ => ⟨hs, hff⟩⟩
      · omega
    | succ u ih =>
      intro i s S1 ff hiu hs hr hu X1 v51 hff
      obtain ⟨hO, ⟨bf, h42, hbf⟩, hB, -⟩ := id X1
      have V1 := hu.at hV.1 (by decide)
      rw [hkn] at V1
      have v21 := hu.at h21 (by decide)
      have Y1 := hu.at hy9 (by simp only [List.mem_cons, List.not_mem_nil, or_false]; omega)
      have C1 : coS S1 L := hL.up hu (by decide)
      obtain ⟨f, h50, hl58, hf5⟩ := id C1
      refine ks_iload_n dX2_findCoins_7 rfl rfl ?_
      refine ks_aload_n dX2_findCoins_8 rfl rfl ?_
      refine ks_getf (T := TX2) (kf := 7) kx_741 rfl in_X2 cl_X2 (by decide) hO rfl dX2_findCoins_9 rfl ?_
      refine ks_getf (T := TX10) (kf := 1) kx_558 rfl in_X10 cl_X10 (by decide) V1 rfl dX2_findCoins_12 rfl ?_
      refine ks_icmp_geN (tgt := 160) (by omega) (by omega) dX2_findCoins_15 (by decide) rfl (fun h1 => ?_) (fun h1 => ?_)
      · omega
      · have ba := bA i (by omega)
        rw [fcF] at hr
        refine ks_aload_n dX2_findCoins_18 rfl rfl ?_
        refine ks_getf (T := TX2) (kf := 7) kx_741 rfl in_X2 cl_X2 (by decide) hO rfl dX2_findCoins_19 rfl ?_
        refine ks_getf (T := TX10) (kf := 3) kx_562 rfl in_X10 cl_X10 (by decide) V1 rfl dX2_findCoins_22 rfl ?_
        refine ks_iload_n dX2_findCoins_25 rfl rfl ?_
        refine ks_ialdN (i := i) v21 rfl (by omega) (by decide) dX2_findCoins_26 rfl ?_
        rw [eA i (by omega)]
        refine ks_istore_n dX2_findCoins_27 (by decide) rfl ?_
        refine ks_sub [(3, _), (0, _), (1, _), (2, _)] rfl ?_
        refine ks_aload_n dX2_findCoins_28 rfl rfl ?_
        refine ks_getf (T := TX2) (kf := 11) kx_745 rfl in_X2 cl_X2 (by decide) hO rfl dX2_findCoins_29 rfl ?_
        refine ks_iload_n dX2_findCoins_32 rfl rfl ?_
        refine ks_aload_n dX2_findCoins_33 rfl rfl ?_
        refine ks_aload_n dX2_findCoins_34 rfl rfl ?_
        refine ks_getf (T := TX2) (kf := 10) kx_744 rfl in_X2 cl_X2 (by decide) hO rfl dX2_findCoins_35 rfl ?_
        refine ks_aload_n dX2_findCoins_38 rfl rfl ?_
        refine ks_getf (T := TX2) (kf := 12) kx_746 rfl in_X2 cl_X2 (by decide) hO rfl dX2_findCoins_39 rfl ?_
        refine ks_aload_n dX2_findCoins_42 rfl rfl ?_
        refine ks_getf (T := TX2) (kf := 7) kx_741 rfl in_X2 cl_X2 (by decide) hO rfl dX2_findCoins_43 rfl ?_
        refine ks_getf (T := TX10) (kf := 0) kx_556 rfl in_X10 cl_X10 (by decide) V1 rfl dX2_findCoins_46 rfl ?_
        refine ks_iload_n dX2_findCoins_49 rfl rfl ?_
        refine ks_aload_n dX2_findCoins_50 rfl rfl ?_
        refine ks_getf (T := TX2) (kf := 7) kx_741 rfl in_X2 cl_X2 (by decide) hO rfl dX2_findCoins_51 rfl ?_
        refine ks_getf (T := TX10) (kf := 0) kx_556 rfl in_X10 cl_X10 (by decide) V1 rfl dX2_findCoins_54 rfl ?_
        refine ks_iload_n dX2_findCoins_57 rfl rfl ?_
        refine ks_bipush (x := nI 32) dX2_findCoins_58 (by decide) rfl ?_
        refine ks_addN dX2_findCoins_60 rfl ?_
        refine ks_iconst (x := nI 4) dX2_findCoins_61 (by decide) rfl ?_
        refine ks_callS (n := 3) (M' := mX1_number) (c_Buffer_number (d := d + 1) (i := inA Mb t i + 32) (sz := 4) Y1 hg9 (by omega) (by decide) (by decide)) kx_1114 kx_998 kx_2 kx_999 (by decide +kernel) rfl (by decide) (Nat.le_of_ble_eq_true rfl) rfl dX2_findCoins_62 rfl (fun z1 T1 y1 => ?_)
        obtain ⟨rfl, hT1⟩ := y1
        obtain rfl := hT1.symm
        rw [bk_num (i := inA Mb t i + 32) (n := 4) eg9 (by omega)]
        refine ks_l2iN dX2_findCoins_65 rfl ?_
        refine ks_callV (n := 5) (M' := mX2_placeOf) (c_ch_place (d := d) (at_ := inA Mb t i) (ix := nI (ks_num (mg Mb) (inA Mb t i + 32) 4)) X1 C1 hf Y1 hg9 (by decide) (by omega)) hO cl_X2 rfl kx_1028 kx_1030 kxp_15 kx_26 kx_1031 (by decide +kernel) rfl (by decide) (Nat.le_of_ble_eq_true rfl) rfl dX2_findCoins_66 rfl (fun z2 T2 y2 => ?_)
        obtain ⟨rfl, hT2⟩ := y2
        obtain rfl := hT2.symm
        have ep : plL B (nI (ks_num (mg Mb) (inA Mb t i + 32) 4)) (fun j => g9 (inA Mb t i + j)) L = fiP B Mb t L i := by
          unfold fiP plL
          refine plD_congr (fun k _ _ => ?_)
          unfold cnIs
          rw [sm32_c (h := fun j => g9 (inA Mb t i + j)) (h2 := fun j => mg Mb (inA Mb t i + j)) (a2 := 0) (b2 := 0) (fun j _ => rfl) (fun j hj => by rw [Nat.zero_add]; exact eg9 _ (by omega))]
        rw [ep]
        have pb : fiP B Mb t L i ≤ L.length := plL_b
        obtain ⟨p, hp⟩ : ∃ p, fiP B Mb t L i = p := ⟨_, rfl⟩
        rw [hp] at hr pb ⊢
        by_cases hp0 : p = 0
        · rw [if_pos hp0] at hr
          refine ks_ti (y := nI 4294967295) (by rw [hp0]; decide) ?_
          refine ks_iastNN (i := i) (v := 4294967295) (by decide) v51 (by omega) (by decide) dX2_findCoins_69 rfl ?_
          refine ks_aload_n dX2_findCoins_70 rfl rfl ?_
          refine ks_getf (T := TX2) (kf := 11) kx_745 rfl in_X2 cl_X2 (by decide) ((ks_set_ne _ _ (by decide)).trans hO) rfl dX2_findCoins_71 rfl ?_
          refine ks_iload_n dX2_findCoins_74 rfl rfl ?_
          refine ks_ialdN (i := i) (ks_set_same _ _ _) rfl (by omega) (by decide) dX2_findCoins_75 rfl ?_
          refine ks_ti (congrArg nI (va_up_self _ _ _)) ?_
          refine ks_ti (y := -1) (by decide) ?_
          refine ks_if_ge (tgt := 82) dX2_findCoins_76 (by decide) rfl (fun h3 => ?_) (fun h3 => ?_)
          · exact absurd h3 (by decide)
          · refine ks_bipush (x := nI 11) dX2_findCoins_79 (by decide) rfl ?_
            refine ks_iret rfl dX2_findCoins_81 ?_
            have e9 : R = (11, s) := hr.symm
            rw [e9]
            exact ⟨rfl, hu.trans (ks_up_set _ _ (by decide)), X1.row _ (by decide), _, ks_set_same _ _ _, fun h => by cases h⟩
        · rw [if_neg hp0] at hr
          rw [nI_D (by omega : 0 < p)]
          refine ks_iastNN (i := i) (v := p - 1) (by decide) v51 (by omega) (by decide) dX2_findCoins_69 rfl ?_
          obtain ⟨S2, hS2⟩ : ∃ S2, S2 = ks_set S1 51 (kN 40 (va_up ff i (p - 1))) := ⟨_, rfl⟩
          refine ks_tS (S' := S2) (by rw [hS2]) ?_
          have w2 : ks_up S1 S2 [51] := by rw [hS2]; exact ks_up_set _ _ (by decide)
          have u2 := hu.trans (w2.mono (L' := [41, 51]) (by decide))
          have X2 : chX S2 n best (nI L.length) (lN s) B := X1.up w2 (by decide)
          have e51 : S2.2.2 51 = some (kN 40 (va_up ff i (p - 1))) := by rw [hS2]; exact ks_set_same _ _ _
          have s51 : va_up ff i (p - 1) i = p - 1 := va_up_self _ _ _
          have j51 : ∀ j, j < i → va_up ff i (p - 1) j = ff j := fun j hj => va_up_ne _ _ (by omega)
          have h50b := w2.at h50 (by decide)
          obtain ⟨hO2, ⟨bf2, h42b, hbf2⟩, hB2, -⟩ := id X2
          obtain ⟨c, hc⟩ : ∃ c, L.getD (p - 1) 0 = c := ⟨_, rfl⟩
          have hfc : f (p - 1) = c := by rw [hf5 _ (by omega), hc]
          have cR := hf (p - 1) (by omega)
          have cV := hv (p - 1) (by omega)
          rw [hc] at hr cR cV
          generalize va_up ff i (p - 1) = fg at *
          refine ks_aload_n dX2_findCoins_70 rfl rfl ?_
          refine ks_getf (T := TX2) (kf := 11) kx_745 rfl in_X2 cl_X2 (by decide) hO2 rfl dX2_findCoins_71 rfl ?_
          refine ks_iload_n dX2_findCoins_74 rfl rfl ?_
          refine ks_ialdN (i := i) e51 rfl (by omega) (by decide) dX2_findCoins_75 rfl ?_
          rw [s51]
          refine ks_if_geN (tgt := 82) (by omega) dX2_findCoins_76 (by decide) ?_
          refine ks_aload_n dX2_findCoins_82 rfl rfl ?_
          refine ks_getf (T := TX2) (kf := 10) kx_744 rfl in_X2 cl_X2 (by decide) hO2 rfl dX2_findCoins_83 rfl ?_
          refine ks_aload_n dX2_findCoins_86 rfl rfl ?_
          refine ks_getf (T := TX2) (kf := 11) kx_745 rfl in_X2 cl_X2 (by decide) hO2 rfl dX2_findCoins_87 rfl ?_
          refine ks_iload_n dX2_findCoins_90 rfl rfl ?_
          refine ks_ialdN (i := i) e51 rfl (by omega) (by decide) dX2_findCoins_91 rfl ?_
          rw [s51]
          refine ks_ialdN (i := p - 1) h50b rfl (by omega) (by decide) dX2_findCoins_92 rfl ?_
          rw [hfc]
          refine ks_istore dX2_findCoins_93 (by decide) rfl ?_
          refine ks_sub [(4, _), (0, _), (1, _), (2, _), (3, _)] rfl ?_
          refine ks_iload dX2_findCoins_95 rfl rfl ?_
          have k125 : ¬ (c / 2 ^ 19 % 16 = 0 ∧ h - bkH (B (c / 2 ^ 23)) < 3) → ks_X l G mX2_findCoins (d + 2) 125 [(0, .ref 41), (1, .int (nI h)), (2, .int (nI i)), (3, .int (nI (inA Mb t i))), (4, .int (nI c))] [] S2 (fun z S' => z = some (.int (nI R.1)) ∧ ks_up S S' [41, 51] ∧ chX S' n best (nI L.length) (lN R.2) B ∧ ∃ ff, S'.2.2 51 = some (kN 40 ff) ∧ (R.1 = 0 → R.2 ≤ 2100000000000000 ∧ ∀ i, i < kn → fiP B Mb t L i ≠ 0 ∧ ff i = fiP B Mb t L i - 1)) := by
            intro hyoung
            rw [if_neg hyoung] at hr
            refine ks_aload_n dX2_findCoins_125 rfl rfl ?_
            refine ks_dup dX2_findCoins_126 rfl rfl ?_
            refine ks_getf (T := TX2) (kf := 13) kx_747 rfl in_X2 cl_X2 (by decide) hO2 rfl dX2_findCoins_127 rfl ?_
            refine ks_aload_n dX2_findCoins_130 rfl rfl ?_
            refine ks_iload dX2_findCoins_131 rfl rfl ?_
            refine ks_callV (n := 1) (M' := mX2_value) (c_ch_value (d := d) (c := c) X2 cR) hO2 cl_X2 rfl kx_1110 kx_1112 kxp_16 kx_26 kx_1113 (by decide +kernel) rfl (by decide) (Nat.le_of_ble_eq_true rfl) rfl dX2_findCoins_133 rfl (fun z3 T3 y3 => ?_)
            obtain ⟨rfl, hT3⟩ := y3
            obtain rfl := hT3.symm
            refine ks_laddN dX2_findCoins_136 rfl ?_
            refine ks_putf (T := TX2) (kf := 13) kx_747 rfl in_X2 tyX2_ok nmX2 cl_X2 (by decide) hO2 (Nat.le_of_ble_eq_true rfl) rfl rfl rfl rfl dX2_findCoins_137 rfl ?_
            refine ks_aload_n dX2_findCoins_140 rfl rfl ?_
            refine ks_getf (T := TX2) (kf := 13) kx_747 rfl in_X2 cl_X2 (by decide) (ks_set_same _ _ _) rfl dX2_findCoins_141 rfl ?_
            refine ks_ldc2 dX2_findCoins_144 kx_1540 rfl ?_
            refine ks_tl (y := lN 2100000000000000) rfl ?_
            have X3 := X2.obj best (nI L.length) (lN (s + cnV B c))
            have u3 := u2.trans (ks_up_set (a := 41) (L := [41, 51]) S2 (chO n best (nI L.length) (lN (s + cnV B c))) (by decide))
            have f51 := (ks_set_ne S2 (a := 41) (b := 51) (chO n best (nI L.length) (lN (s + cnV B c))) (by decide)).trans e51
            refine ks_lif_leN (tgt := 154) (by omega) (by decide) dX2_findCoins_147 rfl dX2_findCoins_148 (by decide) rfl (fun h5 => ?_) (fun h5 => ?_)
            · rw [if_neg (by omega)] at hr
              refine ks_incN (c := 1) (e := i + 1) dX2_findCoins_154 rfl (by decide) rfl (by decide) rfl ?_
              refine ks_sub [(2, _), (0, _), (1, _), (3, _), (4, _)] rfl ?_
              refine ks_goto (tgt := 7) dX2_findCoins_157 (by decide) ?_
              exact ks_sub [(0, _), (1, _), (2, _)] rfl (ih (i + 1) (s + cnV B c) _ fg (by omega) (by omega) hr u3 X3 f51 (fun j hj => by
                by_cases e : j = i
                · subst e; rw [hp]; exact ⟨hp0, s51⟩
                · rw [j51 j (by omega)]; exact hff j (by omega)))
            · refine ks_bipush (x := nI 13) dX2_findCoins_151 (by decide) rfl ?_
              refine ks_iret rfl dX2_findCoins_153 ?_
              rw [if_pos (by omega)] at hr
              have e9 : R = (13, s + cnV B c) := hr.symm
              rw [e9]
              exact ⟨rfl, u3, X3, fg, f51, fun h => by cases h⟩
          refine ks_callS (n := 1) (M' := mX2_transactionOf) (c_ch_transactionOf (d := d + 1) cR.1) kx_1038 kx_1039 kx_26 kx_1040 (by decide +kernel) rfl (by decide) (Nat.le_of_ble_eq_true rfl) rfl dX2_findCoins_97 rfl (fun z4 T4 y4 => ?_)
          obtain ⟨rfl, hT4⟩ := y4
          obtain rfl := hT4.symm
          refine ks_if_neN (tgt := 125) (by omega) dX2_findCoins_100 (by decide) rfl (fun h4 => ?_) (fun h4 => ?_)
          · exact ks_sub [(0, _), (1, _), (2, _), (3, _), (4, _)] rfl (k125 (fun h => h4 h.1))
          · refine ks_iload_n dX2_findCoins_103 rfl rfl ?_
            refine ks_aload_n dX2_findCoins_104 rfl rfl ?_
            refine ks_getf (T := TX2) (kf := 0) kx_729 rfl in_X2 cl_X2 (by decide) hO2 rfl dX2_findCoins_105 rfl ?_
            refine ks_iload dX2_findCoins_108 rfl rfl ?_
            refine ks_callS (n := 1) (M' := mX2_blockOf) (c_ch_blockOf (d := d + 1) cR.1) kx_1035 kx_1036 kx_26 kx_1037 (by decide +kernel) rfl (by decide) (Nat.le_of_ble_eq_true rfl) rfl dX2_findCoins_110 rfl (fun z5 T5 y5 => ?_)
            obtain ⟨rfl, hT5⟩ := y5
            obtain rfl := hT5.symm
            have cR2 := cR.2.1
            have hhc := hhei _ cR.2.1
            obtain ⟨g1y, f2y, g3y, g4y, oy, ley, egy, bly, sty, idy, hsy, coy⟩ := hB2 (c / 2 ^ 23) (by omega)
            by_cases hle : bkH (B (c / 2 ^ 23)) ≤ h
            · refine ks_aaldN (i := c / 2 ^ 23) (b := (bkN (B (c / 2 ^ 23)))) (by decide) h42b rfl (by omega) (by decide) (hbf2 (c / 2 ^ 23) (by omega)) dX2_findCoins_113 rfl ?_
              refine ks_getf (T := TX0) (kf := 7) kx_954 rfl in_X0 cl_X0 (by decide) oy.1 rfl dX2_findCoins_114 rfl ?_
              refine ks_subN (by omega) dX2_findCoins_117 rfl ?_
              refine ks_iconst (x := nI 3) dX2_findCoins_118 (by decide) rfl ?_
              refine ks_icmp_geN (tgt := 125) (by omega) (by decide) dX2_findCoins_119 (by decide) rfl (fun h6 => ?_) (fun h6 => ?_)
              · exact ks_sub [(0, _), (1, _), (2, _), (3, _), (4, _)] rfl (k125 (fun h => by omega))
              · refine ks_bipush (x := nI 12) dX2_findCoins_122 (by decide) rfl ?_
                refine ks_iret rfl dX2_findCoins_124 ?_
                rw [if_pos ⟨h4, by omega⟩] at hr
                have e9 : R = (12, s) := hr.symm
                rw [e9]
                exact ⟨rfl, u2, X2, fg, e51, fun h => by cases h⟩
            · refine ks_aaldN (i := c / 2 ^ 23) (b := (bkN (B (c / 2 ^ 23)))) (by decide) h42b rfl (by omega) (by decide) (hbf2 (c / 2 ^ 23) (by omega)) dX2_findCoins_113 rfl ?_
              refine ks_getf (T := TX0) (kf := 7) kx_954 rfl in_X0 cl_X0 (by decide) oy.1 rfl dX2_findCoins_114 rfl ?_
              refine ks_isub dX2_findCoins_117 rfl ?_
              refine ks_iconst (x := nI 3) dX2_findCoins_118 (by decide) rfl ?_
              refine ks_icmp_ge (tgt := 125) dX2_findCoins_119 (by decide) rfl (fun h6 => ?_) (fun h6 => ?_)
              · exact absurd h6 (Int32.not_le.mpr (neg_lt3 (by omega) (by omega)))
              · refine ks_bipush (x := nI 12) dX2_findCoins_122 (by decide) rfl ?_
                refine ks_iret rfl dX2_findCoins_124 ?_
                rw [if_pos ⟨h4, by omega⟩] at hr
                have e9 : R = (12, s) := hr.symm
                rw [e9]
                exact ⟨rfl, u2, X2, fg, e51, fun h => by cases h⟩
  refine ks_of (by decide) rfl rfl (Nat.le_of_ble_eq_true rfl) ?_
  show ks_X l G mX2_findCoins (d + 2) 0 [(0, .ref 41), (1, .int (nI h))] [] S _
  refine ks_aload_n dX2_findCoins_0 rfl rfl ?_
  refine ks_lconst (x := lN 0) dX2_findCoins_1 (by decide) rfl ?_
  refine ks_putf (T := TX2) (kf := 13) kx_747 rfl in_X2 tyX2_ok nmX2 cl_X2 (by decide) hX.1 (Nat.le_of_ble_eq_true rfl) rfl rfl rfl rfl dX2_findCoins_2 rfl ?_
  refine ks_iconst (x := nI 0) dX2_findCoins_5 (by decide) rfl ?_
  refine ks_istore_n dX2_findCoins_6 (by decide) rfl ?_
  refine ks_sub [(2, _), (0, _), (1, _)] rfl ?_
  exact ks_sub [(0, _), (1, _), (2, _)] rfl (loop kn 0 0 _ f51 (by omega) (by decide) hR (ks_up_set _ _ (by decide)) (hX.obj best (nI L.length) (lN 0)) ((ks_set_ne _ _ (by decide)).trans h51) (fun j hj => absurd hj (Nat.not_lt_zero j)))
