/-! THE REFERENCE: a block drawn: its bytes -/
theorem by_inc {g : Nat → Nat} {i : Nat} (h : g i < 256) : ks_by ((kb g i + nI 1).toInt8.toInt32) = (1 + g i) % 256 := by
  rw [ks_by_i8]
  have e : ∀ q, q < 256 → ks_by (kb (fun _ => q) 0 + nI 1) = (1 + q) % 256 := by decide +kernel
  exact e (g i) h
theorem i32_64 (y : Int32) : y.toInt64.toBitVec.toNat % 4294967296 = y.toBitVec.toNat := by
  show (y.toBitVec.signExtend 64).toNat % 4294967296 = _
  have := y.toBitVec.isLt
  rw [BitVec.toNat_signExtend, BitVec.toNat_setWidth]
  split <;> omega
theorem numL4_m {v x : Int64} (h : v.toBitVec.toNat % 4294967296 = x.toBitVec.toNat % 4294967296) : numL v 4 = numL x 4 := by
  unfold numL
  refine List.map_congr_left (fun k hk => ?_)
  have hk := List.mem_range.mp hk
  obtain ⟨N, eN⟩ : ∃ N, N = v.toBitVec.toNat := ⟨_, rfl⟩
  obtain ⟨L, eL⟩ : ∃ N, N = x.toBitVec.toNat := ⟨_, rfl⟩
  rw [← eN, ← eL] at h
  rw [← eN, ← eL]
  rcases (show k = 0 ∨ k = 1 ∨ k = 2 ∨ k = 3 by omega) with rfl | rfl | rfl | rfl
  · show N / 1 % 256 = L / 1 % 256
    omega
  · show N / 256 % 256 = L / 256 % 256
    omega
  · show N / 65536 % 256 = L / 65536 % 256
    omega
  · show N / 16777216 % 256 = L / 16777216 % 256
    omega
theorem numL_sub1 (x : Int32) : numL (x.toInt64 - lN 1) 4 = numL (x - 1).toInt64 4 := by
  refine numL4_m ?_
  rw [i32_64]
  show (x.toInt64.toBitVec - (lN 1).toBitVec).toNat % 4294967296 = (x.toBitVec - (1 : Int32).toBitVec).toNat
  rw [BitVec.toNat_sub, BitVec.toNat_sub, show (lN 1).toBitVec.toNat = 1 from rfl, show (1 : Int32).toBitVec.toNat = 1 from rfl]
  have h1 := i32_64 x
  have h2 := x.toBitVec.isLt
  have h3 := x.toInt64.toBitVec.isLt
  omega
theorem numL0_8 : numL (lN 0) 8 ++ numL (lN 0) 8 ++ numL (lN 0) 8 ++ numL (lN 0) 8 = bytL (fun _ => 0) 0 32 := by decide
theorem catT_le {S : ks_S} {t : Nat} {D : Nat → dTx} (h : rdS S t D) : ∀ k, k ≤ t → (catT D k).length ≤ 7600 * k
  | 0, _ => Nat.le_refl _
  | k + 1, hk => by
    rw [show catT D (k + 1) = catT D k ++ txL (D k) from rfl, List.length_append]
    have h1 := catT_le h k (by omega)
    have h2 := h.le (show k < t by omega)
    omega
theorem drH_len9 {md : Nat} {hs : List Nat} {dt : Int64} {bt : Int32} {D : Nat → dTx} {t : Nat} (h : hs.length = 32) : (drH md hs dt bt D t).length = 80 := by
  unfold drH
  by_cases h5 : md = 5
  · rw [if_pos h5]
    simp only [List.length_append, numL_len, bytL_len]
  · rw [if_neg h5]
    simp only [List.length_append, numL_len, bytL_len, h]
set_option maxRecDepth 100000 in
set_option maxHeartbeats 800000 in
theorem l_asT {l : Launch} {G : ks_G} {d : Nat} {S : ks_S} {V : Nat → Value} {t md bt : Nat} {D : Nat → dTx} {m : List Nat} (hO : S.2.2 290 = some (rfE V)) (hD : rdS S t D) (v94 : V 94 = .int (nI t)) (hm : m.length ≤ 100) {P9 : Option Value → ks_S → Prop} (hk : ∀ (S1 : ks_S) (V1 : Nat → Value), buK S S1 V V1 529 107 → buX S1 V1 529 131072 107 (m ++ catT D t) → ks_X l G mX16_assemble (d + 5) 231 [(0, .ref 290), (1, .int (nI md)), (2, .int (nI bt))] [] S1 P9) : ∀ (u z : Nat) (S1 : ks_S) (V1 : Nat → Value), z + u = t → buK S S1 V V1 529 107 → buX S1 V1 529 131072 107 (m ++ catT D z) → ks_X l G mX16_assemble (d + 5) 212 [(0, .ref 290), (1, .int (nI md)), (2, .int (nI bt)), (3, .int (nI z))] [] S1 P9 := by
  have ht := hD.1
  intro u
  induction u with
  | zero =>
    intro z S1 V1 hz K1 B1
    have v1 : V1 94 = .int (nI t) := (K1.2.2 94 (by decide)).trans v94
    refine ks_iload_n dX16_assemble_212 rfl rfl ?_
    refine ks_aload_n dX16_assemble_213 rfl rfl ?_
    refine ks_getf (T := TX16) (kf := 94) kx_2462 rfl in_X16 cl_X16 (by decide) K1.2.1 rfl dX16_assemble_214 rfl ?_
    refine ks_tv v1 ?_
    obtain rfl : z = t := hz
    refine ks_icmp_geN (tgt := 231) (by omega) (by omega) dX16_assemble_217 (by decide) rfl (fun h2 => ?_) (fun h2 => absurd h2 (by omega))
    exact ks_sub [(0, _), (1, _), (2, _)] rfl (hk S1 V1 K1 B1)
  | succ u ih =>
    intro z S1 V1 hz K1 B1
    have v1 : V1 94 = .int (nI t) := (K1.2.2 94 (by decide)).trans v94
    refine ks_iload_n dX16_assemble_212 rfl rfl ?_
    refine ks_aload_n dX16_assemble_213 rfl rfl ?_
    refine ks_getf (T := TX16) (kf := 94) kx_2462 rfl in_X16 cl_X16 (by decide) K1.2.1 rfl dX16_assemble_214 rfl ?_
    refine ks_tv v1 ?_
    refine ks_icmp_geN (tgt := 231) (by omega) (by omega) dX16_assemble_217 (by decide) rfl (fun h2 => absurd h2 (by omega)) (fun h2 => ?_)
    refine ks_aload_n dX16_assemble_220 rfl rfl ?_
    refine ks_iload_n dX16_assemble_221 rfl rfl ?_
    have D1 := hD.up K1.1 (fun x hx => by simp only [List.mem_cons, List.not_mem_nil, or_false] at hx; omega)
    have hc := catT_le hD z (by omega)
    refine ks_callV (n := 1) (M' := mX16_makeTx) (c_md_makeTx (i := z) K1.2.1 D1 (by omega) B1 (by rw [List.length_append]; omega)) K1.2.1 cl_X16 rfl kx_1971 kx_1973 kxp_57 kx_30 kx_1974 (by decide +kernel) rfl (by decide) (Nat.le_of_ble_eq_true rfl) rfl dX16_assemble_222 rfl (fun z2 S2 y2 => ?_)
    obtain ⟨rfl, V2, J2, B2⟩ := y2
    refine ks_incN (c := 1) (e := z + 1) dX16_assemble_225 rfl (by decide) rfl (by decide) rfl ?_
    refine ks_sub [(3, _), (0, _), (1, _), (2, _)] rfl ?_
    refine ks_goto (tgt := 212) dX16_assemble_228 (by decide) ?_
    refine ks_sub [(0, _), (1, _), (2, _), (3, _)] rfl (ih (z + 1) S2 V2 (by omega) (K1.trans J2) ?_)
    rw [show catT D (z + 1) = catT D z ++ txL (D z) from rfl, ← List.append_assoc]
    exact B2
set_option maxRecDepth 100000 in
set_option maxHeartbeats 1600000 in
theorem l_asBQ0 {l : Launch} {G : ks_G} {d : Nat} {S : ks_S} {V : Nat → Value} {t bt : Nat} {dt : Int64} {D : Nat → dTx} {g0 gr : Nat → Nat} (hO : S.2.2 290 = some (rfE V)) (hD : rdS S t D) (v94 : V 94 = .int (nI t)) (v93 : V 93 = .long dt) {n q : Nat} {B : Nat → Bk} (v92 : V 92 = .int (nI q)) (hR : rbS S n B) (hq : q < n) (h529 : S.2.2 529 = some (kB 131072 g0)) (k0 : kO g0) (h357 : S.2.2 357 = some (kB 32 gr)) (kgr : kO gr) (hgr : ∀ j, j < 32 → gr j = root_ (idG D) t j) {P9 : Option Value → ks_S → Prop} (hk : ∀ (S1 : ks_S) (V1 : Nat → Value), buK S S1 V V1 529 107 → buX S1 V1 529 131072 107 (drH 0 (bytL (hsB (bkM (B q))) 0 32) dt (nI bt) D t ++ cntL t ++ catT D t) → ks_X l G mX16_assemble (d + 5) 231 [(0, .ref 290), (1, .int (nI 0)), (2, .int (nI bt))] [] S1 P9) : ks_X l G mX16_assemble (d + 5) 64 [(0, .ref 290), (1, .int (nI 0)), (2, .int (nI bt))] [] S P9 := by
  have ht := hD.1
  obtain ⟨⟨bf, h341, hbf⟩, hB9, hn61⟩ := id hR
  obtain ⟨obq, -, ⟨ghq, ehq, khq, ahq⟩, -, hq5, hqB⟩ := hB9 q hq
  refine ks_aload_n dX16_assemble_64 rfl rfl ?_
  refine ks_iconst (x := nI 0) dX16_assemble_65 (by decide) rfl ?_
  refine ks_putf (T := TX16) (kf := 107) kx_2475 rfl in_X16 tyX16_ok nmX16 cl_X16 (by decide) hO (Nat.le_of_ble_eq_true rfl) rfl rfl rfl rfl dX16_assemble_66 rfl ?_
  refine md_put mdp_107 ?_
  refine ks_nm (fun T0 e0 => ?_)
  have u0 : ks_up S T0 [290] := by rw [e0]; exact ks_up_set _ _ (List.mem_singleton.mpr rfl)
  have o0 : T0.2.2 290 = some (rfE (va_up V 107 (.int (nI 0)))) := by rw [e0]; exact ks_set_same _ _ _
  clear e0
  have K0 : buK S T0 V (va_up V 107 (.int (nI 0))) 529 107 := ⟨u0.mono (by decide), o0, fun k hk => va_up_ne _ _ hk⟩
  have B0 : buX T0 (va_up V 107 (.int (nI 0))) 529 131072 107 [] := ⟨va_up_self _ _ _, g0, u0.at h529 (by decide), k0, Nat.zero_le _, rfl⟩
  refine ks_aload_n dX16_assemble_69 rfl rfl ?_
  refine ks_iload_n dX16_assemble_70 rfl rfl ?_
  refine ks_iconst (x := nI 4) dX16_assemble_71 (by decide) rfl ?_
  refine ks_icmp_neN (tgt := 81) (by decide) (by decide) dX16_assemble_72 (by decide) rfl (fun hc72 => ?_) (fun hc72 => ?_)
  · refine ks_lconst (x := lN 1) dX16_assemble_81 (by decide) rfl ?_
    refine ks_iconst (x := nI 4) dX16_assemble_82 (by decide) rfl ?_
    refine ks_callV (n := 2) (M' := mX16_make) (c_md_makeN K0.2.1 B0 (n := 4) (by decide) (by first | omega | (simp only [List.length_append, bytL_len, numL_len, List.length_nil]; omega))) K0.2.1 cl_X16 rfl kx_1975 kx_1977 kxp_58 kx_30 kx_1978 (by decide +kernel) rfl (by decide) (Nat.le_of_ble_eq_true rfl) rfl dX16_assemble_83 rfl (fun z1 T1 y1 => ?_)
    obtain ⟨rfl, V1, J1, B1⟩ := y1
    have K1 := K0.trans J1
    refine ks_aload_n dX16_assemble_86 rfl rfl ?_
    refine ks_getf (T := TX16) (kf := 92) kx_2460 rfl in_X16 cl_X16 (by decide) K1.2.1 rfl dX16_assemble_87 rfl ?_
    refine ks_tv ((K1.2.2 92 (by decide)).trans v92) ?_
    refine ks_if_ltN (tgt := 98) (by omega) dX16_assemble_90 (by decide) rfl ?_
    refine ks_iload_n dX16_assemble_93 rfl rfl ?_
    refine ks_iconst (x := nI 5) dX16_assemble_94 (by decide) rfl ?_
    refine ks_icmp_neN (tgt := 121) (by decide) (by decide) dX16_assemble_95 (by decide) rfl (fun hc95 => ?_) (fun hc95 => ?_)
    · refine ks_aload_n dX16_assemble_121 rfl rfl ?_
      refine ks_aload_n dX16_assemble_122 rfl rfl ?_
      refine ks_getf (T := TX16) (kf := 46) kx_2414 rfl in_X16 cl_X16 (by decide) K1.2.1 rfl dX16_assemble_123 rfl ?_
      refine ks_aload_n dX16_assemble_126 rfl rfl ?_
      refine ks_getf (T := TX16) (kf := 92) kx_2460 rfl in_X16 cl_X16 (by decide) K1.2.1 rfl dX16_assemble_127 rfl ?_
      refine ks_tv ((K1.2.2 92 (by decide)).trans v92) ?_
      refine ks_aaldN (i := q) (b := (bkN (B q))) (by decide) (K1.1.at h341 (by decide)) rfl (by omega) (by decide) (hbf q (by omega)) dX16_assemble_130 rfl ?_
      refine ks_getN (T := TX12) (kf := 2) kx_2061 rfl in_X12 cl_X12 (by decide) (K1.1.at obq (by simp only [List.mem_cons, List.not_mem_nil, or_false]; omega)) rfl dX16_assemble_131 rfl ?_
      refine ks_iconst (x := nI 0) dX16_assemble_134 (by decide) rfl ?_
      refine ks_bipush (x := nI 32) dX16_assemble_135 (by decide) rfl ?_
      refine ks_callV (n := 3) (M' := mX16_make_) (c_md_makeB K1.2.1 B1 (s := 0) (n := 32) (K1.1.at ehq (by simp only [List.mem_cons, List.not_mem_nil, or_false]; omega)) khq (by decide) (by decide) (by omega) (by first | omega | (simp only [List.length_append, bytL_len, numL_len, List.length_nil]; omega))) K1.2.1 cl_X16 rfl kx_1984 kx_1986 kxp_60 kx_30 kx_1987 (by decide +kernel) rfl (by decide) (Nat.le_of_ble_eq_true rfl) rfl dX16_assemble_137 rfl (fun z2 T2 y2 => ?_)
      obtain ⟨rfl, V2, J2, B2⟩ := y2
      have K2 := K1.trans J2
      refine ks_aload_n dX16_assemble_140 rfl rfl ?_
      refine ks_aload_n dX16_assemble_141 rfl rfl ?_
      refine ks_getf (T := TX16) (kf := 60) kx_2428 rfl in_X16 cl_X16 (by decide) K2.2.1 rfl dX16_assemble_142 rfl ?_
      refine ks_iconst (x := nI 0) dX16_assemble_145 (by decide) rfl ?_
      refine ks_bipush (x := nI 32) dX16_assemble_146 (by decide) rfl ?_
      refine ks_callV (n := 3) (M' := mX16_make_) (c_md_makeB K2.2.1 B2 (s := 0) (n := 32) (K2.1.at h357 (by decide)) kgr (by decide) (by decide) (by decide) (by first | omega | (simp only [List.length_append, bytL_len, numL_len, List.length_nil]; omega))) K2.2.1 cl_X16 rfl kx_1984 kx_1986 kxp_60 kx_30 kx_1987 (by decide +kernel) rfl (by decide) (Nat.le_of_ble_eq_true rfl) rfl dX16_assemble_148 rfl (fun z3 T3 y3 => ?_)
      obtain ⟨rfl, V3, J3, B3⟩ := y3
      have K3 := K2.trans J3
      refine ks_iload_n dX16_assemble_151 rfl rfl ?_
      refine ks_iconst (x := nI 1) dX16_assemble_152 (by decide) rfl ?_
      refine ks_icmp_neN (tgt := 168) (by decide) (by decide) dX16_assemble_153 (by decide) rfl (fun hc153 => ?_) (fun hc153 => ?_)
      · refine ks_aload_n dX16_assemble_168 rfl rfl ?_
        refine ks_aload_n dX16_assemble_169 rfl rfl ?_
        refine ks_getf (T := TX16) (kf := 93) kx_2461 rfl in_X16 cl_X16 (by decide) K3.2.1 rfl dX16_assemble_170 rfl ?_
        refine ks_tv ((K3.2.2 93 (by decide)).trans v93) ?_
        refine ks_iconst (x := nI 4) dX16_assemble_173 (by decide) rfl ?_
        refine ks_callV (n := 2) (M' := mX16_make) (c_md_makeN K3.2.1 B3 (n := 4) (by decide) (by first | omega | (simp only [List.length_append, bytL_len, numL_len, List.length_nil]; omega))) K3.2.1 cl_X16 rfl kx_1975 kx_1977 kxp_58 kx_30 kx_1978 (by decide +kernel) rfl (by decide) (Nat.le_of_ble_eq_true rfl) rfl dX16_assemble_174 rfl (fun z4 T4 y4 => ?_)
        obtain ⟨rfl, V4, J4, B4⟩ := y4
        have K4 := K3.trans J4
        refine ks_aload_n dX16_assemble_177 rfl rfl ?_
        refine ks_iload_n dX16_assemble_178 rfl rfl ?_
        refine ks_iconst (x := nI 2) dX16_assemble_179 (by decide) rfl ?_
        refine ks_icmp_neN (tgt := 190) (by decide) (by decide) dX16_assemble_180 (by decide) rfl (fun hc180 => ?_) (fun hc180 => ?_)
        · refine ks_iload_n dX16_assemble_190 rfl rfl ?_
          refine ks_i2l dX16_assemble_191 rfl ?_
          refine ks_iconst (x := nI 4) dX16_assemble_192 (by decide) rfl ?_
          refine ks_callV (n := 2) (M' := mX16_make) (c_md_makeN K4.2.1 B4 (n := 4) (by decide) (by first | omega | (simp only [List.length_append, bytL_len, numL_len, List.length_nil]; omega))) K4.2.1 cl_X16 rfl kx_1975 kx_1977 kxp_58 kx_30 kx_1978 (by decide +kernel) rfl (by decide) (Nat.le_of_ble_eq_true rfl) rfl dX16_assemble_193 rfl (fun z5 T5 y5 => ?_)
          obtain ⟨rfl, V5, J5, B5⟩ := y5
          have K5 := K4.trans J5
          refine ks_aload_n dX16_assemble_196 rfl rfl ?_
          refine ks_lconst (x := lN 0) dX16_assemble_197 (by decide) rfl ?_
          refine ks_iconst (x := nI 4) dX16_assemble_198 (by decide) rfl ?_
          refine ks_callV (n := 2) (M' := mX16_make) (c_md_makeN K5.2.1 B5 (n := 4) (by decide) (by first | omega | (simp only [List.length_append, bytL_len, numL_len, List.length_nil]; omega))) K5.2.1 cl_X16 rfl kx_1975 kx_1977 kxp_58 kx_30 kx_1978 (by decide +kernel) rfl (by decide) (Nat.le_of_ble_eq_true rfl) rfl dX16_assemble_199 rfl (fun z6 T6 y6 => ?_)
          obtain ⟨rfl, V6, J6, B6⟩ := y6
          have K6 := K5.trans J6
          refine ks_aload_n dX16_assemble_202 rfl rfl ?_
          refine ks_aload_n dX16_assemble_203 rfl rfl ?_
          refine ks_getf (T := TX16) (kf := 94) kx_2462 rfl in_X16 cl_X16 (by decide) K6.2.1 rfl dX16_assemble_204 rfl ?_
          refine ks_tv ((K6.2.2 94 (by decide)).trans v94) ?_
          refine ks_callV (n := 1) (M' := mX16_makeCount) (c_md_makeCount K6.2.1 B6 (n := t) (by omega) (by first | omega | (simp only [List.length_append, bytL_len, numL_len, List.length_nil]; omega))) K6.2.1 cl_X16 rfl kx_1979 kx_1981 kxp_59 kx_30 kx_1982 (by decide +kernel) rfl (by decide) (Nat.le_of_ble_eq_true rfl) rfl dX16_assemble_207 rfl (fun z7 T7 y7 => ?_)
          obtain ⟨rfl, V7, J7, B7⟩ := y7
          have K7 := K6.trans J7
          refine ks_iconst (x := nI 0) dX16_assemble_210 (by decide) rfl ?_
          refine ks_istore_n dX16_assemble_211 (by decide) rfl ?_
          refine ks_sub [(3, _), (0, _), (1, _), (2, _)] rfl ?_
          obtain ⟨m9, em9⟩ : ∃ m, m = drH 0 (bytL (hsB (bkM (B q))) 0 32) dt (nI bt) D t ++ cntL t := ⟨_, rfl⟩
          have lm9 : m9.length ≤ 100 := by
            rw [em9, List.length_append, drH_len9 (bytL_len _ _ _)]
            have := cntL_le t
            omega
          have B9 : buX T7 V7 529 131072 107 m9 := by
            have eR : bytL (drR 0 D t) 0 32 = bytL gr 0 32 := bytL_congr (fun j hj => by
              rw [Nat.zero_add, hgr j hj]
              exact if_neg (fun h => absurd h.1 (by decide)))
            have eH : bytL (hsB (bkM (B q))) 0 32 = bytL ghq 0 32 := bytL_congr (fun j hj => by rw [Nat.zero_add]; exact (ahq j hj).symm)
            have e9 : m9 = [] ++ numL (lN 1) 4 ++ bytL ghq 0 32 ++ bytL gr 0 32 ++ numL dt 4 ++ numL (nI bt).toInt64 4 ++ numL (lN 0) 4 ++ cntL t := by
              rw [em9]
              unfold drH
              rw [eR, eH]
              first | rfl | (simp only [List.nil_append, List.append_assoc]; rfl) | (rw [← numL0_8]; simp only [List.nil_append, List.append_assoc]; rfl)
            rw [e9]
            exact B7
          have D9 := hD.up K7.1 (fun x hx => by simp only [List.mem_cons, List.not_mem_nil, or_false] at hx; omega)
          exact ks_sub [(0, _), (1, _), (2, _), (3, .int (nI 0))] rfl (l_asT K7.2.1 D9 ((K7.2.2 94 (by decide)).trans v94) lm9 (fun S9 V9 J9 B9 => ks_sub [(0, _), (1, _), (2, _)] rfl (hk S9 V9 (K7.trans J9) (by rw [em9] at B9; exact B9))) t 0 T7 _ (Nat.zero_add _) ⟨ks_up.rf _ _, K7.2.1, fun _ _ => rfl⟩ (by rw [show catT D 0 = [] from rfl, List.append_nil]; exact B9))
        · exact absurd hc180 (by decide)
      · exact absurd hc153 (by decide)
    · exact absurd hc95 (by decide)
  · exact absurd hc72 (by decide)
set_option maxRecDepth 100000 in
set_option maxHeartbeats 1600000 in
theorem l_asBQ1 {l : Launch} {G : ks_G} {d : Nat} {S : ks_S} {V : Nat → Value} {t bt : Nat} {dt : Int64} {D : Nat → dTx} {g0 gr : Nat → Nat} (hO : S.2.2 290 = some (rfE V)) (hD : rdS S t D) (v94 : V 94 = .int (nI t)) (v93 : V 93 = .long dt) {n q : Nat} {B : Nat → Bk} (v92 : V 92 = .int (nI q)) (hR : rbS S n B) (hq : q < n) (h529 : S.2.2 529 = some (kB 131072 g0)) (k0 : kO g0) (h357 : S.2.2 357 = some (kB 32 gr)) (kgr : kO gr) (hgr : ∀ j, j < 32 → gr j = root_ (idG D) t j) {P9 : Option Value → ks_S → Prop} (hk : ∀ (S1 : ks_S) (V1 : Nat → Value), buK S S1 V V1 529 107 → buX S1 V1 529 131072 107 (drH 1 (bytL (hsB (bkM (B q))) 0 32) dt (nI bt) D t ++ cntL t ++ catT D t) → ks_X l G mX16_assemble (d + 5) 231 [(0, .ref 290), (1, .int (nI 1)), (2, .int (nI bt))] [] S1 P9) : ks_X l G mX16_assemble (d + 5) 64 [(0, .ref 290), (1, .int (nI 1)), (2, .int (nI bt))] [] S P9 := by
  have ht := hD.1
  obtain ⟨⟨bf, h341, hbf⟩, hB9, hn61⟩ := id hR
  obtain ⟨obq, -, ⟨ghq, ehq, khq, ahq⟩, -, hq5, hqB⟩ := hB9 q hq
  refine ks_aload_n dX16_assemble_64 rfl rfl ?_
  refine ks_iconst (x := nI 0) dX16_assemble_65 (by decide) rfl ?_
  refine ks_putf (T := TX16) (kf := 107) kx_2475 rfl in_X16 tyX16_ok nmX16 cl_X16 (by decide) hO (Nat.le_of_ble_eq_true rfl) rfl rfl rfl rfl dX16_assemble_66 rfl ?_
  refine md_put mdp_107 ?_
  refine ks_nm (fun T0 e0 => ?_)
  have u0 : ks_up S T0 [290] := by rw [e0]; exact ks_up_set _ _ (List.mem_singleton.mpr rfl)
  have o0 : T0.2.2 290 = some (rfE (va_up V 107 (.int (nI 0)))) := by rw [e0]; exact ks_set_same _ _ _
  clear e0
  have K0 : buK S T0 V (va_up V 107 (.int (nI 0))) 529 107 := ⟨u0.mono (by decide), o0, fun k hk => va_up_ne _ _ hk⟩
  have B0 : buX T0 (va_up V 107 (.int (nI 0))) 529 131072 107 [] := ⟨va_up_self _ _ _, g0, u0.at h529 (by decide), k0, Nat.zero_le _, rfl⟩
  refine ks_aload_n dX16_assemble_69 rfl rfl ?_
  refine ks_iload_n dX16_assemble_70 rfl rfl ?_
  refine ks_iconst (x := nI 4) dX16_assemble_71 (by decide) rfl ?_
  refine ks_icmp_neN (tgt := 81) (by decide) (by decide) dX16_assemble_72 (by decide) rfl (fun hc72 => ?_) (fun hc72 => ?_)
  · refine ks_lconst (x := lN 1) dX16_assemble_81 (by decide) rfl ?_
    refine ks_iconst (x := nI 4) dX16_assemble_82 (by decide) rfl ?_
    refine ks_callV (n := 2) (M' := mX16_make) (c_md_makeN K0.2.1 B0 (n := 4) (by decide) (by first | omega | (simp only [List.length_append, bytL_len, numL_len, List.length_nil]; omega))) K0.2.1 cl_X16 rfl kx_1975 kx_1977 kxp_58 kx_30 kx_1978 (by decide +kernel) rfl (by decide) (Nat.le_of_ble_eq_true rfl) rfl dX16_assemble_83 rfl (fun z1 T1 y1 => ?_)
    obtain ⟨rfl, V1, J1, B1⟩ := y1
    have K1 := K0.trans J1
    refine ks_aload_n dX16_assemble_86 rfl rfl ?_
    refine ks_getf (T := TX16) (kf := 92) kx_2460 rfl in_X16 cl_X16 (by decide) K1.2.1 rfl dX16_assemble_87 rfl ?_
    refine ks_tv ((K1.2.2 92 (by decide)).trans v92) ?_
    refine ks_if_ltN (tgt := 98) (by omega) dX16_assemble_90 (by decide) rfl ?_
    refine ks_iload_n dX16_assemble_93 rfl rfl ?_
    refine ks_iconst (x := nI 5) dX16_assemble_94 (by decide) rfl ?_
    refine ks_icmp_neN (tgt := 121) (by decide) (by decide) dX16_assemble_95 (by decide) rfl (fun hc95 => ?_) (fun hc95 => ?_)
    · refine ks_aload_n dX16_assemble_121 rfl rfl ?_
      refine ks_aload_n dX16_assemble_122 rfl rfl ?_
      refine ks_getf (T := TX16) (kf := 46) kx_2414 rfl in_X16 cl_X16 (by decide) K1.2.1 rfl dX16_assemble_123 rfl ?_
      refine ks_aload_n dX16_assemble_126 rfl rfl ?_
      refine ks_getf (T := TX16) (kf := 92) kx_2460 rfl in_X16 cl_X16 (by decide) K1.2.1 rfl dX16_assemble_127 rfl ?_
      refine ks_tv ((K1.2.2 92 (by decide)).trans v92) ?_
      refine ks_aaldN (i := q) (b := (bkN (B q))) (by decide) (K1.1.at h341 (by decide)) rfl (by omega) (by decide) (hbf q (by omega)) dX16_assemble_130 rfl ?_
      refine ks_getN (T := TX12) (kf := 2) kx_2061 rfl in_X12 cl_X12 (by decide) (K1.1.at obq (by simp only [List.mem_cons, List.not_mem_nil, or_false]; omega)) rfl dX16_assemble_131 rfl ?_
      refine ks_iconst (x := nI 0) dX16_assemble_134 (by decide) rfl ?_
      refine ks_bipush (x := nI 32) dX16_assemble_135 (by decide) rfl ?_
      refine ks_callV (n := 3) (M' := mX16_make_) (c_md_makeB K1.2.1 B1 (s := 0) (n := 32) (K1.1.at ehq (by simp only [List.mem_cons, List.not_mem_nil, or_false]; omega)) khq (by decide) (by decide) (by omega) (by first | omega | (simp only [List.length_append, bytL_len, numL_len, List.length_nil]; omega))) K1.2.1 cl_X16 rfl kx_1984 kx_1986 kxp_60 kx_30 kx_1987 (by decide +kernel) rfl (by decide) (Nat.le_of_ble_eq_true rfl) rfl dX16_assemble_137 rfl (fun z2 T2 y2 => ?_)
      obtain ⟨rfl, V2, J2, B2⟩ := y2
      have K2 := K1.trans J2
      refine ks_aload_n dX16_assemble_140 rfl rfl ?_
      refine ks_aload_n dX16_assemble_141 rfl rfl ?_
      refine ks_getf (T := TX16) (kf := 60) kx_2428 rfl in_X16 cl_X16 (by decide) K2.2.1 rfl dX16_assemble_142 rfl ?_
      refine ks_iconst (x := nI 0) dX16_assemble_145 (by decide) rfl ?_
      refine ks_bipush (x := nI 32) dX16_assemble_146 (by decide) rfl ?_
      refine ks_callV (n := 3) (M' := mX16_make_) (c_md_makeB K2.2.1 B2 (s := 0) (n := 32) (K2.1.at h357 (by decide)) kgr (by decide) (by decide) (by decide) (by first | omega | (simp only [List.length_append, bytL_len, numL_len, List.length_nil]; omega))) K2.2.1 cl_X16 rfl kx_1984 kx_1986 kxp_60 kx_30 kx_1987 (by decide +kernel) rfl (by decide) (Nat.le_of_ble_eq_true rfl) rfl dX16_assemble_148 rfl (fun z3 T3 y3 => ?_)
      obtain ⟨rfl, V3, J3, B3⟩ := y3
      have K3 := K2.trans J3
      refine ks_iload_n dX16_assemble_151 rfl rfl ?_
      refine ks_iconst (x := nI 1) dX16_assemble_152 (by decide) rfl ?_
      refine ks_icmp_neN (tgt := 168) (by decide) (by decide) dX16_assemble_153 (by decide) rfl (fun hc153 => ?_) (fun hc153 => ?_)
      · exact absurd hc153 (by decide)
      · obtain ⟨X, eX⟩ : ∃ X, X = [] ++ numL (lN 1) 4 ++ bytL ghq 0 32 ++ bytL gr 0 32 := ⟨_, rfl⟩
        rw [← eX] at B3
        have lX : X.length = 68 := by rw [eX]; simp only [List.length_append, bytL_len, numL_len, List.length_nil]
        obtain ⟨vX, gX, e29, kX, hX, em⟩ := B3
        have h36 := kX 36
        refine ks_aload_n dX16_assemble_156 rfl rfl ?_
        refine ks_getf (T := TX16) (kf := 106) kx_2474 rfl in_X16 cl_X16 (by decide) K3.2.1 rfl dX16_assemble_157 rfl ?_
        refine ks_bipush (x := nI 36) dX16_assemble_160 (by decide) rfl ?_
        refine ks_dup2_11 dX16_assemble_162 rfl rfl rfl ?_
        refine ks_baldB (i := 36) e29 rfl (by decide) (by decide) dX16_assemble_163 rfl ?_
        refine ks_iconst (x := nI 1) dX16_assemble_164 (by decide) rfl ?_
        refine ks_iadd dX16_assemble_165 rfl ?_
        refine ks_i2b dX16_assemble_166 rfl ?_
        refine ks_bastB (i := 36) (c := (1 + gX 36) % 256) e29 rfl (by decide) (by decide) (by_inc (kX 36)) dX16_assemble_167 rfl ?_
        refine ks_nm (fun T4 e9 => ?_)
        have u4 : ks_up T3 T4 [529] := by rw [e9]; exact ks_up_set _ _ (List.mem_singleton.mpr rfl)
        have e30 : T4.2.2 529 = some (kB 131072 (va_up gX 36 ((1 + gX 36) % 256))) := by rw [e9]; exact ks_set_same _ _ _
        clear e9
        have K4 : buK S T4 V V3 529 107 := ⟨K3.1.trans (u4.mono (by decide)), u4.at K3.2.1 (by decide), K3.2.2⟩
        have V4 := V3
        have hgX : ∀ j, j < 68 → gX j = mg X j := fun j hj => bytL_mg em (by omega)
        have hg36 : ∀ j, j < 32 → gX (36 + j) = gr j := fun j hj => by
          rw [hgX (36 + j) (by omega), eX, ← List.append_nil ([] ++ numL (lN 1) 4 ++ bytL ghq 0 32 ++ bytL gr 0 32), mg_app _ _ _ (p := 36 + j) (j := j) (by simp only [List.length_append, bytL_len, numL_len, List.length_nil]) (by rw [bytL_len]; exact hj), bytL_at _ _ _ hj, Nat.zero_add]
        have eY : numL (lN 1) 4 ++ bytL ghq 0 32 ++ bytL (drR 1 D t) 0 32 = bytL (va_up gX 36 ((1 + gX 36) % 256)) 0 68 := by
          rw [bytL_spq _ 0 (show 36 ≤ 68 by decide), Nat.zero_add]
          have e1 : bytL (va_up gX 36 ((1 + gX 36) % 256)) 0 36 = numL (lN 1) 4 ++ bytL ghq 0 32 := by
            rw [bytL_congr (g := gX) (i2 := 0) (fun j hj => va_up_ne _ _ (by omega)), ← bytL_take gX 0 (show 36 ≤ X.length by omega), ← em, eX]
            rw [List.nil_append, List.take_append_of_le_length (by simp only [List.length_append, bytL_len, numL_len]; omega), List.take_of_length_le (by simp only [List.length_append, bytL_len, numL_len]; omega)]
          have e2 : bytL (va_up gX 36 ((1 + gX 36) % 256)) 36 (68 - 36) = bytL (drR 1 D t) 0 32 := bytL_congr (fun j hj => by
            rw [Nat.zero_add]
            unfold drR
            by_cases h : j = 0
            · rw [h, if_pos ⟨rfl, rfl⟩, va_up_self, ← hgr 0 (by decide), ← hg36 0 (by decide)]
            · rw [if_neg (fun h9 => h h9.2), va_up_ne _ _ (by omega), hg36 j (by omega)]
              exact hgr j (by omega))
          rw [e1, e2]
        have B4 : buX T4 V3 529 131072 107 (numL (lN 1) 4 ++ bytL ghq 0 32 ++ bytL (drR 1 D t) 0 32) := ⟨by rw [vX, lX]; simp only [List.length_append, bytL_len, numL_len], _, e30, kO_up kX (Nat.mod_lt _ (by decide)), by simp only [List.length_append, bytL_len, numL_len]; decide, by rw [show (numL (lN 1) 4 ++ bytL ghq 0 32 ++ bytL (drR 1 D t) 0 32).length = 68 from by simp only [List.length_append, bytL_len, numL_len]]; exact eY⟩
        refine ks_aload_n dX16_assemble_168 rfl rfl ?_
        refine ks_aload_n dX16_assemble_169 rfl rfl ?_
        refine ks_getf (T := TX16) (kf := 93) kx_2461 rfl in_X16 cl_X16 (by decide) K4.2.1 rfl dX16_assemble_170 rfl ?_
        refine ks_tv ((K4.2.2 93 (by decide)).trans v93) ?_
        refine ks_iconst (x := nI 4) dX16_assemble_173 (by decide) rfl ?_
        refine ks_callV (n := 2) (M' := mX16_make) (c_md_makeN K4.2.1 B4 (n := 4) (by decide) (by first | omega | (simp only [List.length_append, bytL_len, numL_len, List.length_nil]; omega))) K4.2.1 cl_X16 rfl kx_1975 kx_1977 kxp_58 kx_30 kx_1978 (by decide +kernel) rfl (by decide) (Nat.le_of_ble_eq_true rfl) rfl dX16_assemble_174 rfl (fun z5 T5 y5 => ?_)
        obtain ⟨rfl, V5, J5, B5⟩ := y5
        have K5 := K4.trans J5
        refine ks_aload_n dX16_assemble_177 rfl rfl ?_
        refine ks_iload_n dX16_assemble_178 rfl rfl ?_
        refine ks_iconst (x := nI 2) dX16_assemble_179 (by decide) rfl ?_
        refine ks_icmp_neN (tgt := 190) (by decide) (by decide) dX16_assemble_180 (by decide) rfl (fun hc180 => ?_) (fun hc180 => ?_)
        · refine ks_iload_n dX16_assemble_190 rfl rfl ?_
          refine ks_i2l dX16_assemble_191 rfl ?_
          refine ks_iconst (x := nI 4) dX16_assemble_192 (by decide) rfl ?_
          refine ks_callV (n := 2) (M' := mX16_make) (c_md_makeN K5.2.1 B5 (n := 4) (by decide) (by first | omega | (simp only [List.length_append, bytL_len, numL_len, List.length_nil]; omega))) K5.2.1 cl_X16 rfl kx_1975 kx_1977 kxp_58 kx_30 kx_1978 (by decide +kernel) rfl (by decide) (Nat.le_of_ble_eq_true rfl) rfl dX16_assemble_193 rfl (fun z6 T6 y6 => ?_)
          obtain ⟨rfl, V6, J6, B6⟩ := y6
          have K6 := K5.trans J6
          refine ks_aload_n dX16_assemble_196 rfl rfl ?_
          refine ks_lconst (x := lN 0) dX16_assemble_197 (by decide) rfl ?_
          refine ks_iconst (x := nI 4) dX16_assemble_198 (by decide) rfl ?_
          refine ks_callV (n := 2) (M' := mX16_make) (c_md_makeN K6.2.1 B6 (n := 4) (by decide) (by first | omega | (simp only [List.length_append, bytL_len, numL_len, List.length_nil]; omega))) K6.2.1 cl_X16 rfl kx_1975 kx_1977 kxp_58 kx_30 kx_1978 (by decide +kernel) rfl (by decide) (Nat.le_of_ble_eq_true rfl) rfl dX16_assemble_199 rfl (fun z7 T7 y7 => ?_)
          obtain ⟨rfl, V7, J7, B7⟩ := y7
          have K7 := K6.trans J7
          refine ks_aload_n dX16_assemble_202 rfl rfl ?_
          refine ks_aload_n dX16_assemble_203 rfl rfl ?_
          refine ks_getf (T := TX16) (kf := 94) kx_2462 rfl in_X16 cl_X16 (by decide) K7.2.1 rfl dX16_assemble_204 rfl ?_
          refine ks_tv ((K7.2.2 94 (by decide)).trans v94) ?_
          refine ks_callV (n := 1) (M' := mX16_makeCount) (c_md_makeCount K7.2.1 B7 (n := t) (by omega) (by first | omega | (simp only [List.length_append, bytL_len, numL_len, List.length_nil]; omega))) K7.2.1 cl_X16 rfl kx_1979 kx_1981 kxp_59 kx_30 kx_1982 (by decide +kernel) rfl (by decide) (Nat.le_of_ble_eq_true rfl) rfl dX16_assemble_207 rfl (fun z8 T8 y8 => ?_)
          obtain ⟨rfl, V8, J8, B8⟩ := y8
          have K8 := K7.trans J8
          refine ks_iconst (x := nI 0) dX16_assemble_210 (by decide) rfl ?_
          refine ks_istore_n dX16_assemble_211 (by decide) rfl ?_
          refine ks_sub [(3, _), (0, _), (1, _), (2, _)] rfl ?_
          obtain ⟨m9, em9⟩ : ∃ m, m = drH 1 (bytL (hsB (bkM (B q))) 0 32) dt (nI bt) D t ++ cntL t := ⟨_, rfl⟩
          have lm9 : m9.length ≤ 100 := by
            rw [em9, List.length_append, drH_len9 (bytL_len _ _ _)]
            have := cntL_le t
            omega
          have B9 : buX T8 V8 529 131072 107 m9 := by
            have eR : bytL (drR 1 D t) 0 32 = bytL (drR 1 D t) 0 32 := rfl
            have eH : bytL (hsB (bkM (B q))) 0 32 = bytL ghq 0 32 := bytL_congr (fun j hj => by rw [Nat.zero_add]; exact (ahq j hj).symm)
            have e9 : m9 = numL (lN 1) 4 ++ bytL ghq 0 32 ++ bytL (drR 1 D t) 0 32 ++ numL dt 4 ++ numL (nI bt).toInt64 4 ++ numL (lN 0) 4 ++ cntL t := by
              rw [em9]
              unfold drH
              rw [eR, eH]
              first | rfl | (simp only [List.nil_append, List.append_assoc]; rfl) | (rw [← numL0_8]; simp only [List.nil_append, List.append_assoc]; rfl)
            rw [e9]
            exact B8
          have D9 := hD.up K8.1 (fun x hx => by simp only [List.mem_cons, List.not_mem_nil, or_false] at hx; omega)
          exact ks_sub [(0, _), (1, _), (2, _), (3, .int (nI 0))] rfl (l_asT K8.2.1 D9 ((K8.2.2 94 (by decide)).trans v94) lm9 (fun S9 V9 J9 B9 => ks_sub [(0, _), (1, _), (2, _)] rfl (hk S9 V9 (K8.trans J9) (by rw [em9] at B9; exact B9))) t 0 T8 _ (Nat.zero_add _) ⟨ks_up.rf _ _, K8.2.1, fun _ _ => rfl⟩ (by rw [show catT D 0 = [] from rfl, List.append_nil]; exact B9))
        · exact absurd hc180 (by decide)
    · exact absurd hc95 (by decide)
  · exact absurd hc72 (by decide)
set_option maxRecDepth 100000 in
set_option maxHeartbeats 1600000 in
theorem l_asBQ2 {l : Launch} {G : ks_G} {d : Nat} {S : ks_S} {V : Nat → Value} {t bt : Nat} {dt : Int64} {D : Nat → dTx} {g0 gr : Nat → Nat} (hO : S.2.2 290 = some (rfE V)) (hD : rdS S t D) (v94 : V 94 = .int (nI t)) (v93 : V 93 = .long dt) {n q : Nat} {B : Nat → Bk} (v92 : V 92 = .int (nI q)) (hR : rbS S n B) (hq : q < n) (h529 : S.2.2 529 = some (kB 131072 g0)) (k0 : kO g0) (h357 : S.2.2 357 = some (kB 32 gr)) (kgr : kO gr) (hgr : ∀ j, j < 32 → gr j = root_ (idG D) t j) {P9 : Option Value → ks_S → Prop} (hk : ∀ (S1 : ks_S) (V1 : Nat → Value), buK S S1 V V1 529 107 → buX S1 V1 529 131072 107 (drH 2 (bytL (hsB (bkM (B q))) 0 32) dt (nI bt) D t ++ cntL t ++ catT D t) → ks_X l G mX16_assemble (d + 5) 231 [(0, .ref 290), (1, .int (nI 2)), (2, .int (nI bt))] [] S1 P9) : ks_X l G mX16_assemble (d + 5) 64 [(0, .ref 290), (1, .int (nI 2)), (2, .int (nI bt))] [] S P9 := by
  have ht := hD.1
  obtain ⟨⟨bf, h341, hbf⟩, hB9, hn61⟩ := id hR
  obtain ⟨obq, -, ⟨ghq, ehq, khq, ahq⟩, -, hq5, hqB⟩ := hB9 q hq
  refine ks_aload_n dX16_assemble_64 rfl rfl ?_
  refine ks_iconst (x := nI 0) dX16_assemble_65 (by decide) rfl ?_
  refine ks_putf (T := TX16) (kf := 107) kx_2475 rfl in_X16 tyX16_ok nmX16 cl_X16 (by decide) hO (Nat.le_of_ble_eq_true rfl) rfl rfl rfl rfl dX16_assemble_66 rfl ?_
  refine md_put mdp_107 ?_
  refine ks_nm (fun T0 e0 => ?_)
  have u0 : ks_up S T0 [290] := by rw [e0]; exact ks_up_set _ _ (List.mem_singleton.mpr rfl)
  have o0 : T0.2.2 290 = some (rfE (va_up V 107 (.int (nI 0)))) := by rw [e0]; exact ks_set_same _ _ _
  clear e0
  have K0 : buK S T0 V (va_up V 107 (.int (nI 0))) 529 107 := ⟨u0.mono (by decide), o0, fun k hk => va_up_ne _ _ hk⟩
  have B0 : buX T0 (va_up V 107 (.int (nI 0))) 529 131072 107 [] := ⟨va_up_self _ _ _, g0, u0.at h529 (by decide), k0, Nat.zero_le _, rfl⟩
  refine ks_aload_n dX16_assemble_69 rfl rfl ?_
  refine ks_iload_n dX16_assemble_70 rfl rfl ?_
  refine ks_iconst (x := nI 4) dX16_assemble_71 (by decide) rfl ?_
  refine ks_icmp_neN (tgt := 81) (by decide) (by decide) dX16_assemble_72 (by decide) rfl (fun hc72 => ?_) (fun hc72 => ?_)
  · refine ks_lconst (x := lN 1) dX16_assemble_81 (by decide) rfl ?_
    refine ks_iconst (x := nI 4) dX16_assemble_82 (by decide) rfl ?_
    refine ks_callV (n := 2) (M' := mX16_make) (c_md_makeN K0.2.1 B0 (n := 4) (by decide) (by first | omega | (simp only [List.length_append, bytL_len, numL_len, List.length_nil]; omega))) K0.2.1 cl_X16 rfl kx_1975 kx_1977 kxp_58 kx_30 kx_1978 (by decide +kernel) rfl (by decide) (Nat.le_of_ble_eq_true rfl) rfl dX16_assemble_83 rfl (fun z1 T1 y1 => ?_)
    obtain ⟨rfl, V1, J1, B1⟩ := y1
    have K1 := K0.trans J1
    refine ks_aload_n dX16_assemble_86 rfl rfl ?_
    refine ks_getf (T := TX16) (kf := 92) kx_2460 rfl in_X16 cl_X16 (by decide) K1.2.1 rfl dX16_assemble_87 rfl ?_
    refine ks_tv ((K1.2.2 92 (by decide)).trans v92) ?_
    refine ks_if_ltN (tgt := 98) (by omega) dX16_assemble_90 (by decide) rfl ?_
    refine ks_iload_n dX16_assemble_93 rfl rfl ?_
    refine ks_iconst (x := nI 5) dX16_assemble_94 (by decide) rfl ?_
    refine ks_icmp_neN (tgt := 121) (by decide) (by decide) dX16_assemble_95 (by decide) rfl (fun hc95 => ?_) (fun hc95 => ?_)
    · refine ks_aload_n dX16_assemble_121 rfl rfl ?_
      refine ks_aload_n dX16_assemble_122 rfl rfl ?_
      refine ks_getf (T := TX16) (kf := 46) kx_2414 rfl in_X16 cl_X16 (by decide) K1.2.1 rfl dX16_assemble_123 rfl ?_
      refine ks_aload_n dX16_assemble_126 rfl rfl ?_
      refine ks_getf (T := TX16) (kf := 92) kx_2460 rfl in_X16 cl_X16 (by decide) K1.2.1 rfl dX16_assemble_127 rfl ?_
      refine ks_tv ((K1.2.2 92 (by decide)).trans v92) ?_
      refine ks_aaldN (i := q) (b := (bkN (B q))) (by decide) (K1.1.at h341 (by decide)) rfl (by omega) (by decide) (hbf q (by omega)) dX16_assemble_130 rfl ?_
      refine ks_getN (T := TX12) (kf := 2) kx_2061 rfl in_X12 cl_X12 (by decide) (K1.1.at obq (by simp only [List.mem_cons, List.not_mem_nil, or_false]; omega)) rfl dX16_assemble_131 rfl ?_
      refine ks_iconst (x := nI 0) dX16_assemble_134 (by decide) rfl ?_
      refine ks_bipush (x := nI 32) dX16_assemble_135 (by decide) rfl ?_
      refine ks_callV (n := 3) (M' := mX16_make_) (c_md_makeB K1.2.1 B1 (s := 0) (n := 32) (K1.1.at ehq (by simp only [List.mem_cons, List.not_mem_nil, or_false]; omega)) khq (by decide) (by decide) (by omega) (by first | omega | (simp only [List.length_append, bytL_len, numL_len, List.length_nil]; omega))) K1.2.1 cl_X16 rfl kx_1984 kx_1986 kxp_60 kx_30 kx_1987 (by decide +kernel) rfl (by decide) (Nat.le_of_ble_eq_true rfl) rfl dX16_assemble_137 rfl (fun z2 T2 y2 => ?_)
      obtain ⟨rfl, V2, J2, B2⟩ := y2
      have K2 := K1.trans J2
      refine ks_aload_n dX16_assemble_140 rfl rfl ?_
      refine ks_aload_n dX16_assemble_141 rfl rfl ?_
      refine ks_getf (T := TX16) (kf := 60) kx_2428 rfl in_X16 cl_X16 (by decide) K2.2.1 rfl dX16_assemble_142 rfl ?_
      refine ks_iconst (x := nI 0) dX16_assemble_145 (by decide) rfl ?_
      refine ks_bipush (x := nI 32) dX16_assemble_146 (by decide) rfl ?_
      refine ks_callV (n := 3) (M' := mX16_make_) (c_md_makeB K2.2.1 B2 (s := 0) (n := 32) (K2.1.at h357 (by decide)) kgr (by decide) (by decide) (by decide) (by first | omega | (simp only [List.length_append, bytL_len, numL_len, List.length_nil]; omega))) K2.2.1 cl_X16 rfl kx_1984 kx_1986 kxp_60 kx_30 kx_1987 (by decide +kernel) rfl (by decide) (Nat.le_of_ble_eq_true rfl) rfl dX16_assemble_148 rfl (fun z3 T3 y3 => ?_)
      obtain ⟨rfl, V3, J3, B3⟩ := y3
      have K3 := K2.trans J3
      refine ks_iload_n dX16_assemble_151 rfl rfl ?_
      refine ks_iconst (x := nI 1) dX16_assemble_152 (by decide) rfl ?_
      refine ks_icmp_neN (tgt := 168) (by decide) (by decide) dX16_assemble_153 (by decide) rfl (fun hc153 => ?_) (fun hc153 => ?_)
      · refine ks_aload_n dX16_assemble_168 rfl rfl ?_
        refine ks_aload_n dX16_assemble_169 rfl rfl ?_
        refine ks_getf (T := TX16) (kf := 93) kx_2461 rfl in_X16 cl_X16 (by decide) K3.2.1 rfl dX16_assemble_170 rfl ?_
        refine ks_tv ((K3.2.2 93 (by decide)).trans v93) ?_
        refine ks_iconst (x := nI 4) dX16_assemble_173 (by decide) rfl ?_
        refine ks_callV (n := 2) (M' := mX16_make) (c_md_makeN K3.2.1 B3 (n := 4) (by decide) (by first | omega | (simp only [List.length_append, bytL_len, numL_len, List.length_nil]; omega))) K3.2.1 cl_X16 rfl kx_1975 kx_1977 kxp_58 kx_30 kx_1978 (by decide +kernel) rfl (by decide) (Nat.le_of_ble_eq_true rfl) rfl dX16_assemble_174 rfl (fun z4 T4 y4 => ?_)
        obtain ⟨rfl, V4, J4, B4⟩ := y4
        have K4 := K3.trans J4
        refine ks_aload_n dX16_assemble_177 rfl rfl ?_
        refine ks_iload_n dX16_assemble_178 rfl rfl ?_
        refine ks_iconst (x := nI 2) dX16_assemble_179 (by decide) rfl ?_
        refine ks_icmp_neN (tgt := 190) (by decide) (by decide) dX16_assemble_180 (by decide) rfl (fun hc180 => ?_) (fun hc180 => ?_)
        · exact absurd hc180 (by decide)
        · refine ks_iload_n dX16_assemble_183 rfl rfl ?_
          refine ks_i2l dX16_assemble_184 rfl ?_
          refine ks_lconst (x := lN 1) dX16_assemble_185 (by decide) rfl ?_
          refine ks_lsub dX16_assemble_186 rfl ?_
          refine ks_goto (tgt := 192) dX16_assemble_187 (by decide) ?_
          refine ks_iconst (x := nI 4) dX16_assemble_192 (by decide) rfl ?_
          refine ks_callV (n := 2) (M' := mX16_make) (c_md_makeN K4.2.1 B4 (n := 4) (by decide) (by first | omega | (simp only [List.length_append, bytL_len, numL_len, List.length_nil]; omega))) K4.2.1 cl_X16 rfl kx_1975 kx_1977 kxp_58 kx_30 kx_1978 (by decide +kernel) rfl (by decide) (Nat.le_of_ble_eq_true rfl) rfl dX16_assemble_193 rfl (fun z5 T5 y5 => ?_)
          obtain ⟨rfl, V5, J5, B5⟩ := y5
          have K5 := K4.trans J5
          refine ks_aload_n dX16_assemble_196 rfl rfl ?_
          refine ks_lconst (x := lN 0) dX16_assemble_197 (by decide) rfl ?_
          refine ks_iconst (x := nI 4) dX16_assemble_198 (by decide) rfl ?_
          refine ks_callV (n := 2) (M' := mX16_make) (c_md_makeN K5.2.1 B5 (n := 4) (by decide) (by first | omega | (simp only [List.length_append, bytL_len, numL_len, List.length_nil]; omega))) K5.2.1 cl_X16 rfl kx_1975 kx_1977 kxp_58 kx_30 kx_1978 (by decide +kernel) rfl (by decide) (Nat.le_of_ble_eq_true rfl) rfl dX16_assemble_199 rfl (fun z6 T6 y6 => ?_)
          obtain ⟨rfl, V6, J6, B6⟩ := y6
          have K6 := K5.trans J6
          refine ks_aload_n dX16_assemble_202 rfl rfl ?_
          refine ks_aload_n dX16_assemble_203 rfl rfl ?_
          refine ks_getf (T := TX16) (kf := 94) kx_2462 rfl in_X16 cl_X16 (by decide) K6.2.1 rfl dX16_assemble_204 rfl ?_
          refine ks_tv ((K6.2.2 94 (by decide)).trans v94) ?_
          refine ks_callV (n := 1) (M' := mX16_makeCount) (c_md_makeCount K6.2.1 B6 (n := t) (by omega) (by first | omega | (simp only [List.length_append, bytL_len, numL_len, List.length_nil]; omega))) K6.2.1 cl_X16 rfl kx_1979 kx_1981 kxp_59 kx_30 kx_1982 (by decide +kernel) rfl (by decide) (Nat.le_of_ble_eq_true rfl) rfl dX16_assemble_207 rfl (fun z7 T7 y7 => ?_)
          obtain ⟨rfl, V7, J7, B7⟩ := y7
          have K7 := K6.trans J7
          refine ks_iconst (x := nI 0) dX16_assemble_210 (by decide) rfl ?_
          refine ks_istore_n dX16_assemble_211 (by decide) rfl ?_
          refine ks_sub [(3, _), (0, _), (1, _), (2, _)] rfl ?_
          obtain ⟨m9, em9⟩ : ∃ m, m = drH 2 (bytL (hsB (bkM (B q))) 0 32) dt (nI bt) D t ++ cntL t := ⟨_, rfl⟩
          have lm9 : m9.length ≤ 100 := by
            rw [em9, List.length_append, drH_len9 (bytL_len _ _ _)]
            have := cntL_le t
            omega
          have B9 : buX T7 V7 529 131072 107 m9 := by
            have eR : bytL (drR 2 D t) 0 32 = bytL gr 0 32 := bytL_congr (fun j hj => by
              rw [Nat.zero_add, hgr j hj]
              exact if_neg (fun h => absurd h.1 (by decide)))
            have eH : bytL (hsB (bkM (B q))) 0 32 = bytL ghq 0 32 := bytL_congr (fun j hj => by rw [Nat.zero_add]; exact (ahq j hj).symm)
            have e9 : m9 = [] ++ numL (lN 1) 4 ++ bytL ghq 0 32 ++ bytL gr 0 32 ++ numL dt 4 ++ numL ((nI bt).toInt64 - lN 1) 4 ++ numL (lN 0) 4 ++ cntL t := by
              rw [em9]
              unfold drH
              rw [eR, eH, numL_sub1]
              first | rfl | (simp only [List.nil_append, List.append_assoc]; rfl) | (rw [← numL0_8]; simp only [List.nil_append, List.append_assoc]; rfl)
            rw [e9]
            exact B7
          have D9 := hD.up K7.1 (fun x hx => by simp only [List.mem_cons, List.not_mem_nil, or_false] at hx; omega)
          exact ks_sub [(0, _), (1, _), (2, _), (3, .int (nI 0))] rfl (l_asT K7.2.1 D9 ((K7.2.2 94 (by decide)).trans v94) lm9 (fun S9 V9 J9 B9 => ks_sub [(0, _), (1, _), (2, _)] rfl (hk S9 V9 (K7.trans J9) (by rw [em9] at B9; exact B9))) t 0 T7 _ (Nat.zero_add _) ⟨ks_up.rf _ _, K7.2.1, fun _ _ => rfl⟩ (by rw [show catT D 0 = [] from rfl, List.append_nil]; exact B9))
      · exact absurd hc153 (by decide)
    · exact absurd hc95 (by decide)
  · exact absurd hc72 (by decide)
set_option maxRecDepth 100000 in
set_option maxHeartbeats 1600000 in
theorem l_asBQ3 {l : Launch} {G : ks_G} {d : Nat} {S : ks_S} {V : Nat → Value} {t bt : Nat} {dt : Int64} {D : Nat → dTx} {g0 gr : Nat → Nat} (hO : S.2.2 290 = some (rfE V)) (hD : rdS S t D) (v94 : V 94 = .int (nI t)) (v93 : V 93 = .long dt) {n q : Nat} {B : Nat → Bk} (v92 : V 92 = .int (nI q)) (hR : rbS S n B) (hq : q < n) (h529 : S.2.2 529 = some (kB 131072 g0)) (k0 : kO g0) (h357 : S.2.2 357 = some (kB 32 gr)) (kgr : kO gr) (hgr : ∀ j, j < 32 → gr j = root_ (idG D) t j) {P9 : Option Value → ks_S → Prop} (hk : ∀ (S1 : ks_S) (V1 : Nat → Value), buK S S1 V V1 529 107 → buX S1 V1 529 131072 107 (drH 3 (bytL (hsB (bkM (B q))) 0 32) dt (nI bt) D t ++ cntL t ++ catT D t) → ks_X l G mX16_assemble (d + 5) 231 [(0, .ref 290), (1, .int (nI 3)), (2, .int (nI bt))] [] S1 P9) : ks_X l G mX16_assemble (d + 5) 64 [(0, .ref 290), (1, .int (nI 3)), (2, .int (nI bt))] [] S P9 := by
  have ht := hD.1
  obtain ⟨⟨bf, h341, hbf⟩, hB9, hn61⟩ := id hR
  obtain ⟨obq, -, ⟨ghq, ehq, khq, ahq⟩, -, hq5, hqB⟩ := hB9 q hq
  refine ks_aload_n dX16_assemble_64 rfl rfl ?_
  refine ks_iconst (x := nI 0) dX16_assemble_65 (by decide) rfl ?_
  refine ks_putf (T := TX16) (kf := 107) kx_2475 rfl in_X16 tyX16_ok nmX16 cl_X16 (by decide) hO (Nat.le_of_ble_eq_true rfl) rfl rfl rfl rfl dX16_assemble_66 rfl ?_
  refine md_put mdp_107 ?_
  refine ks_nm (fun T0 e0 => ?_)
  have u0 : ks_up S T0 [290] := by rw [e0]; exact ks_up_set _ _ (List.mem_singleton.mpr rfl)
  have o0 : T0.2.2 290 = some (rfE (va_up V 107 (.int (nI 0)))) := by rw [e0]; exact ks_set_same _ _ _
  clear e0
  have K0 : buK S T0 V (va_up V 107 (.int (nI 0))) 529 107 := ⟨u0.mono (by decide), o0, fun k hk => va_up_ne _ _ hk⟩
  have B0 : buX T0 (va_up V 107 (.int (nI 0))) 529 131072 107 [] := ⟨va_up_self _ _ _, g0, u0.at h529 (by decide), k0, Nat.zero_le _, rfl⟩
  refine ks_aload_n dX16_assemble_69 rfl rfl ?_
  refine ks_iload_n dX16_assemble_70 rfl rfl ?_
  refine ks_iconst (x := nI 4) dX16_assemble_71 (by decide) rfl ?_
  refine ks_icmp_neN (tgt := 81) (by decide) (by decide) dX16_assemble_72 (by decide) rfl (fun hc72 => ?_) (fun hc72 => ?_)
  · refine ks_lconst (x := lN 1) dX16_assemble_81 (by decide) rfl ?_
    refine ks_iconst (x := nI 4) dX16_assemble_82 (by decide) rfl ?_
    refine ks_callV (n := 2) (M' := mX16_make) (c_md_makeN K0.2.1 B0 (n := 4) (by decide) (by first | omega | (simp only [List.length_append, bytL_len, numL_len, List.length_nil]; omega))) K0.2.1 cl_X16 rfl kx_1975 kx_1977 kxp_58 kx_30 kx_1978 (by decide +kernel) rfl (by decide) (Nat.le_of_ble_eq_true rfl) rfl dX16_assemble_83 rfl (fun z1 T1 y1 => ?_)
    obtain ⟨rfl, V1, J1, B1⟩ := y1
    have K1 := K0.trans J1
    refine ks_aload_n dX16_assemble_86 rfl rfl ?_
    refine ks_getf (T := TX16) (kf := 92) kx_2460 rfl in_X16 cl_X16 (by decide) K1.2.1 rfl dX16_assemble_87 rfl ?_
    refine ks_tv ((K1.2.2 92 (by decide)).trans v92) ?_
    refine ks_if_ltN (tgt := 98) (by omega) dX16_assemble_90 (by decide) rfl ?_
    refine ks_iload_n dX16_assemble_93 rfl rfl ?_
    refine ks_iconst (x := nI 5) dX16_assemble_94 (by decide) rfl ?_
    refine ks_icmp_neN (tgt := 121) (by decide) (by decide) dX16_assemble_95 (by decide) rfl (fun hc95 => ?_) (fun hc95 => ?_)
    · refine ks_aload_n dX16_assemble_121 rfl rfl ?_
      refine ks_aload_n dX16_assemble_122 rfl rfl ?_
      refine ks_getf (T := TX16) (kf := 46) kx_2414 rfl in_X16 cl_X16 (by decide) K1.2.1 rfl dX16_assemble_123 rfl ?_
      refine ks_aload_n dX16_assemble_126 rfl rfl ?_
      refine ks_getf (T := TX16) (kf := 92) kx_2460 rfl in_X16 cl_X16 (by decide) K1.2.1 rfl dX16_assemble_127 rfl ?_
      refine ks_tv ((K1.2.2 92 (by decide)).trans v92) ?_
      refine ks_aaldN (i := q) (b := (bkN (B q))) (by decide) (K1.1.at h341 (by decide)) rfl (by omega) (by decide) (hbf q (by omega)) dX16_assemble_130 rfl ?_
      refine ks_getN (T := TX12) (kf := 2) kx_2061 rfl in_X12 cl_X12 (by decide) (K1.1.at obq (by simp only [List.mem_cons, List.not_mem_nil, or_false]; omega)) rfl dX16_assemble_131 rfl ?_
      refine ks_iconst (x := nI 0) dX16_assemble_134 (by decide) rfl ?_
      refine ks_bipush (x := nI 32) dX16_assemble_135 (by decide) rfl ?_
      refine ks_callV (n := 3) (M' := mX16_make_) (c_md_makeB K1.2.1 B1 (s := 0) (n := 32) (K1.1.at ehq (by simp only [List.mem_cons, List.not_mem_nil, or_false]; omega)) khq (by decide) (by decide) (by omega) (by first | omega | (simp only [List.length_append, bytL_len, numL_len, List.length_nil]; omega))) K1.2.1 cl_X16 rfl kx_1984 kx_1986 kxp_60 kx_30 kx_1987 (by decide +kernel) rfl (by decide) (Nat.le_of_ble_eq_true rfl) rfl dX16_assemble_137 rfl (fun z2 T2 y2 => ?_)
      obtain ⟨rfl, V2, J2, B2⟩ := y2
      have K2 := K1.trans J2
      refine ks_aload_n dX16_assemble_140 rfl rfl ?_
      refine ks_aload_n dX16_assemble_141 rfl rfl ?_
      refine ks_getf (T := TX16) (kf := 60) kx_2428 rfl in_X16 cl_X16 (by decide) K2.2.1 rfl dX16_assemble_142 rfl ?_
      refine ks_iconst (x := nI 0) dX16_assemble_145 (by decide) rfl ?_
      refine ks_bipush (x := nI 32) dX16_assemble_146 (by decide) rfl ?_
      refine ks_callV (n := 3) (M' := mX16_make_) (c_md_makeB K2.2.1 B2 (s := 0) (n := 32) (K2.1.at h357 (by decide)) kgr (by decide) (by decide) (by decide) (by first | omega | (simp only [List.length_append, bytL_len, numL_len, List.length_nil]; omega))) K2.2.1 cl_X16 rfl kx_1984 kx_1986 kxp_60 kx_30 kx_1987 (by decide +kernel) rfl (by decide) (Nat.le_of_ble_eq_true rfl) rfl dX16_assemble_148 rfl (fun z3 T3 y3 => ?_)
      obtain ⟨rfl, V3, J3, B3⟩ := y3
      have K3 := K2.trans J3
      refine ks_iload_n dX16_assemble_151 rfl rfl ?_
      refine ks_iconst (x := nI 1) dX16_assemble_152 (by decide) rfl ?_
      refine ks_icmp_neN (tgt := 168) (by decide) (by decide) dX16_assemble_153 (by decide) rfl (fun hc153 => ?_) (fun hc153 => ?_)
      · refine ks_aload_n dX16_assemble_168 rfl rfl ?_
        refine ks_aload_n dX16_assemble_169 rfl rfl ?_
        refine ks_getf (T := TX16) (kf := 93) kx_2461 rfl in_X16 cl_X16 (by decide) K3.2.1 rfl dX16_assemble_170 rfl ?_
        refine ks_tv ((K3.2.2 93 (by decide)).trans v93) ?_
        refine ks_iconst (x := nI 4) dX16_assemble_173 (by decide) rfl ?_
        refine ks_callV (n := 2) (M' := mX16_make) (c_md_makeN K3.2.1 B3 (n := 4) (by decide) (by first | omega | (simp only [List.length_append, bytL_len, numL_len, List.length_nil]; omega))) K3.2.1 cl_X16 rfl kx_1975 kx_1977 kxp_58 kx_30 kx_1978 (by decide +kernel) rfl (by decide) (Nat.le_of_ble_eq_true rfl) rfl dX16_assemble_174 rfl (fun z4 T4 y4 => ?_)
        obtain ⟨rfl, V4, J4, B4⟩ := y4
        have K4 := K3.trans J4
        refine ks_aload_n dX16_assemble_177 rfl rfl ?_
        refine ks_iload_n dX16_assemble_178 rfl rfl ?_
        refine ks_iconst (x := nI 2) dX16_assemble_179 (by decide) rfl ?_
        refine ks_icmp_neN (tgt := 190) (by decide) (by decide) dX16_assemble_180 (by decide) rfl (fun hc180 => ?_) (fun hc180 => ?_)
        · refine ks_iload_n dX16_assemble_190 rfl rfl ?_
          refine ks_i2l dX16_assemble_191 rfl ?_
          refine ks_iconst (x := nI 4) dX16_assemble_192 (by decide) rfl ?_
          refine ks_callV (n := 2) (M' := mX16_make) (c_md_makeN K4.2.1 B4 (n := 4) (by decide) (by first | omega | (simp only [List.length_append, bytL_len, numL_len, List.length_nil]; omega))) K4.2.1 cl_X16 rfl kx_1975 kx_1977 kxp_58 kx_30 kx_1978 (by decide +kernel) rfl (by decide) (Nat.le_of_ble_eq_true rfl) rfl dX16_assemble_193 rfl (fun z5 T5 y5 => ?_)
          obtain ⟨rfl, V5, J5, B5⟩ := y5
          have K5 := K4.trans J5
          refine ks_aload_n dX16_assemble_196 rfl rfl ?_
          refine ks_lconst (x := lN 0) dX16_assemble_197 (by decide) rfl ?_
          refine ks_iconst (x := nI 4) dX16_assemble_198 (by decide) rfl ?_
          refine ks_callV (n := 2) (M' := mX16_make) (c_md_makeN K5.2.1 B5 (n := 4) (by decide) (by first | omega | (simp only [List.length_append, bytL_len, numL_len, List.length_nil]; omega))) K5.2.1 cl_X16 rfl kx_1975 kx_1977 kxp_58 kx_30 kx_1978 (by decide +kernel) rfl (by decide) (Nat.le_of_ble_eq_true rfl) rfl dX16_assemble_199 rfl (fun z6 T6 y6 => ?_)
          obtain ⟨rfl, V6, J6, B6⟩ := y6
          have K6 := K5.trans J6
          refine ks_aload_n dX16_assemble_202 rfl rfl ?_
          refine ks_aload_n dX16_assemble_203 rfl rfl ?_
          refine ks_getf (T := TX16) (kf := 94) kx_2462 rfl in_X16 cl_X16 (by decide) K6.2.1 rfl dX16_assemble_204 rfl ?_
          refine ks_tv ((K6.2.2 94 (by decide)).trans v94) ?_
          refine ks_callV (n := 1) (M' := mX16_makeCount) (c_md_makeCount K6.2.1 B6 (n := t) (by omega) (by first | omega | (simp only [List.length_append, bytL_len, numL_len, List.length_nil]; omega))) K6.2.1 cl_X16 rfl kx_1979 kx_1981 kxp_59 kx_30 kx_1982 (by decide +kernel) rfl (by decide) (Nat.le_of_ble_eq_true rfl) rfl dX16_assemble_207 rfl (fun z7 T7 y7 => ?_)
          obtain ⟨rfl, V7, J7, B7⟩ := y7
          have K7 := K6.trans J7
          refine ks_iconst (x := nI 0) dX16_assemble_210 (by decide) rfl ?_
          refine ks_istore_n dX16_assemble_211 (by decide) rfl ?_
          refine ks_sub [(3, _), (0, _), (1, _), (2, _)] rfl ?_
          obtain ⟨m9, em9⟩ : ∃ m, m = drH 3 (bytL (hsB (bkM (B q))) 0 32) dt (nI bt) D t ++ cntL t := ⟨_, rfl⟩
          have lm9 : m9.length ≤ 100 := by
            rw [em9, List.length_append, drH_len9 (bytL_len _ _ _)]
            have := cntL_le t
            omega
          have B9 : buX T7 V7 529 131072 107 m9 := by
            have eR : bytL (drR 3 D t) 0 32 = bytL gr 0 32 := bytL_congr (fun j hj => by
              rw [Nat.zero_add, hgr j hj]
              exact if_neg (fun h => absurd h.1 (by decide)))
            have eH : bytL (hsB (bkM (B q))) 0 32 = bytL ghq 0 32 := bytL_congr (fun j hj => by rw [Nat.zero_add]; exact (ahq j hj).symm)
            have e9 : m9 = [] ++ numL (lN 1) 4 ++ bytL ghq 0 32 ++ bytL gr 0 32 ++ numL dt 4 ++ numL (nI bt).toInt64 4 ++ numL (lN 0) 4 ++ cntL t := by
              rw [em9]
              unfold drH
              rw [eR, eH]
              first | rfl | (simp only [List.nil_append, List.append_assoc]; rfl) | (rw [← numL0_8]; simp only [List.nil_append, List.append_assoc]; rfl)
            rw [e9]
            exact B7
          have D9 := hD.up K7.1 (fun x hx => by simp only [List.mem_cons, List.not_mem_nil, or_false] at hx; omega)
          exact ks_sub [(0, _), (1, _), (2, _), (3, .int (nI 0))] rfl (l_asT K7.2.1 D9 ((K7.2.2 94 (by decide)).trans v94) lm9 (fun S9 V9 J9 B9 => ks_sub [(0, _), (1, _), (2, _)] rfl (hk S9 V9 (K7.trans J9) (by rw [em9] at B9; exact B9))) t 0 T7 _ (Nat.zero_add _) ⟨ks_up.rf _ _, K7.2.1, fun _ _ => rfl⟩ (by rw [show catT D 0 = [] from rfl, List.append_nil]; exact B9))
        · exact absurd hc180 (by decide)
      · exact absurd hc153 (by decide)
    · exact absurd hc95 (by decide)
  · exact absurd hc72 (by decide)
set_option maxRecDepth 100000 in
set_option maxHeartbeats 1600000 in
theorem l_asBQ4 {l : Launch} {G : ks_G} {d : Nat} {S : ks_S} {V : Nat → Value} {t bt : Nat} {dt : Int64} {D : Nat → dTx} {g0 gr : Nat → Nat} (hO : S.2.2 290 = some (rfE V)) (hD : rdS S t D) (v94 : V 94 = .int (nI t)) (v93 : V 93 = .long dt) {n q : Nat} {B : Nat → Bk} (v92 : V 92 = .int (nI q)) (hR : rbS S n B) (hq : q < n) (h529 : S.2.2 529 = some (kB 131072 g0)) (k0 : kO g0) (h357 : S.2.2 357 = some (kB 32 gr)) (kgr : kO gr) (hgr : ∀ j, j < 32 → gr j = root_ (idG D) t j) {P9 : Option Value → ks_S → Prop} (hk : ∀ (S1 : ks_S) (V1 : Nat → Value), buK S S1 V V1 529 107 → buX S1 V1 529 131072 107 (drH 4 (bytL (hsB (bkM (B q))) 0 32) dt (nI bt) D t ++ cntL t ++ catT D t) → ks_X l G mX16_assemble (d + 5) 231 [(0, .ref 290), (1, .int (nI 4)), (2, .int (nI bt))] [] S1 P9) : ks_X l G mX16_assemble (d + 5) 64 [(0, .ref 290), (1, .int (nI 4)), (2, .int (nI bt))] [] S P9 := by
  have ht := hD.1
  obtain ⟨⟨bf, h341, hbf⟩, hB9, hn61⟩ := id hR
  obtain ⟨obq, -, ⟨ghq, ehq, khq, ahq⟩, -, hq5, hqB⟩ := hB9 q hq
  refine ks_aload_n dX16_assemble_64 rfl rfl ?_
  refine ks_iconst (x := nI 0) dX16_assemble_65 (by decide) rfl ?_
  refine ks_putf (T := TX16) (kf := 107) kx_2475 rfl in_X16 tyX16_ok nmX16 cl_X16 (by decide) hO (Nat.le_of_ble_eq_true rfl) rfl rfl rfl rfl dX16_assemble_66 rfl ?_
  refine md_put mdp_107 ?_
  refine ks_nm (fun T0 e0 => ?_)
  have u0 : ks_up S T0 [290] := by rw [e0]; exact ks_up_set _ _ (List.mem_singleton.mpr rfl)
  have o0 : T0.2.2 290 = some (rfE (va_up V 107 (.int (nI 0)))) := by rw [e0]; exact ks_set_same _ _ _
  clear e0
  have K0 : buK S T0 V (va_up V 107 (.int (nI 0))) 529 107 := ⟨u0.mono (by decide), o0, fun k hk => va_up_ne _ _ hk⟩
  have B0 : buX T0 (va_up V 107 (.int (nI 0))) 529 131072 107 [] := ⟨va_up_self _ _ _, g0, u0.at h529 (by decide), k0, Nat.zero_le _, rfl⟩
  refine ks_aload_n dX16_assemble_69 rfl rfl ?_
  refine ks_iload_n dX16_assemble_70 rfl rfl ?_
  refine ks_iconst (x := nI 4) dX16_assemble_71 (by decide) rfl ?_
  refine ks_icmp_neN (tgt := 81) (by decide) (by decide) dX16_assemble_72 (by decide) rfl (fun hc72 => ?_) (fun hc72 => ?_)
  · exact absurd hc72 (by decide)
  · refine ks_ldc2 dX16_assemble_75 kx_2042 rfl ?_
    refine ks_tl (y := lN 2) rfl ?_
    refine ks_goto (tgt := 82) dX16_assemble_78 (by decide) ?_
    refine ks_iconst (x := nI 4) dX16_assemble_82 (by decide) rfl ?_
    refine ks_callV (n := 2) (M' := mX16_make) (c_md_makeN K0.2.1 B0 (n := 4) (by decide) (by first | omega | (simp only [List.length_append, bytL_len, numL_len, List.length_nil]; omega))) K0.2.1 cl_X16 rfl kx_1975 kx_1977 kxp_58 kx_30 kx_1978 (by decide +kernel) rfl (by decide) (Nat.le_of_ble_eq_true rfl) rfl dX16_assemble_83 rfl (fun z1 T1 y1 => ?_)
    obtain ⟨rfl, V1, J1, B1⟩ := y1
    have K1 := K0.trans J1
    refine ks_aload_n dX16_assemble_86 rfl rfl ?_
    refine ks_getf (T := TX16) (kf := 92) kx_2460 rfl in_X16 cl_X16 (by decide) K1.2.1 rfl dX16_assemble_87 rfl ?_
    refine ks_tv ((K1.2.2 92 (by decide)).trans v92) ?_
    refine ks_if_ltN (tgt := 98) (by omega) dX16_assemble_90 (by decide) rfl ?_
    refine ks_iload_n dX16_assemble_93 rfl rfl ?_
    refine ks_iconst (x := nI 5) dX16_assemble_94 (by decide) rfl ?_
    refine ks_icmp_neN (tgt := 121) (by decide) (by decide) dX16_assemble_95 (by decide) rfl (fun hc95 => ?_) (fun hc95 => ?_)
    · refine ks_aload_n dX16_assemble_121 rfl rfl ?_
      refine ks_aload_n dX16_assemble_122 rfl rfl ?_
      refine ks_getf (T := TX16) (kf := 46) kx_2414 rfl in_X16 cl_X16 (by decide) K1.2.1 rfl dX16_assemble_123 rfl ?_
      refine ks_aload_n dX16_assemble_126 rfl rfl ?_
      refine ks_getf (T := TX16) (kf := 92) kx_2460 rfl in_X16 cl_X16 (by decide) K1.2.1 rfl dX16_assemble_127 rfl ?_
      refine ks_tv ((K1.2.2 92 (by decide)).trans v92) ?_
      refine ks_aaldN (i := q) (b := (bkN (B q))) (by decide) (K1.1.at h341 (by decide)) rfl (by omega) (by decide) (hbf q (by omega)) dX16_assemble_130 rfl ?_
      refine ks_getN (T := TX12) (kf := 2) kx_2061 rfl in_X12 cl_X12 (by decide) (K1.1.at obq (by simp only [List.mem_cons, List.not_mem_nil, or_false]; omega)) rfl dX16_assemble_131 rfl ?_
      refine ks_iconst (x := nI 0) dX16_assemble_134 (by decide) rfl ?_
      refine ks_bipush (x := nI 32) dX16_assemble_135 (by decide) rfl ?_
      refine ks_callV (n := 3) (M' := mX16_make_) (c_md_makeB K1.2.1 B1 (s := 0) (n := 32) (K1.1.at ehq (by simp only [List.mem_cons, List.not_mem_nil, or_false]; omega)) khq (by decide) (by decide) (by omega) (by first | omega | (simp only [List.length_append, bytL_len, numL_len, List.length_nil]; omega))) K1.2.1 cl_X16 rfl kx_1984 kx_1986 kxp_60 kx_30 kx_1987 (by decide +kernel) rfl (by decide) (Nat.le_of_ble_eq_true rfl) rfl dX16_assemble_137 rfl (fun z2 T2 y2 => ?_)
      obtain ⟨rfl, V2, J2, B2⟩ := y2
      have K2 := K1.trans J2
      refine ks_aload_n dX16_assemble_140 rfl rfl ?_
      refine ks_aload_n dX16_assemble_141 rfl rfl ?_
      refine ks_getf (T := TX16) (kf := 60) kx_2428 rfl in_X16 cl_X16 (by decide) K2.2.1 rfl dX16_assemble_142 rfl ?_
      refine ks_iconst (x := nI 0) dX16_assemble_145 (by decide) rfl ?_
      refine ks_bipush (x := nI 32) dX16_assemble_146 (by decide) rfl ?_
      refine ks_callV (n := 3) (M' := mX16_make_) (c_md_makeB K2.2.1 B2 (s := 0) (n := 32) (K2.1.at h357 (by decide)) kgr (by decide) (by decide) (by decide) (by first | omega | (simp only [List.length_append, bytL_len, numL_len, List.length_nil]; omega))) K2.2.1 cl_X16 rfl kx_1984 kx_1986 kxp_60 kx_30 kx_1987 (by decide +kernel) rfl (by decide) (Nat.le_of_ble_eq_true rfl) rfl dX16_assemble_148 rfl (fun z3 T3 y3 => ?_)
      obtain ⟨rfl, V3, J3, B3⟩ := y3
      have K3 := K2.trans J3
      refine ks_iload_n dX16_assemble_151 rfl rfl ?_
      refine ks_iconst (x := nI 1) dX16_assemble_152 (by decide) rfl ?_
      refine ks_icmp_neN (tgt := 168) (by decide) (by decide) dX16_assemble_153 (by decide) rfl (fun hc153 => ?_) (fun hc153 => ?_)
      · refine ks_aload_n dX16_assemble_168 rfl rfl ?_
        refine ks_aload_n dX16_assemble_169 rfl rfl ?_
        refine ks_getf (T := TX16) (kf := 93) kx_2461 rfl in_X16 cl_X16 (by decide) K3.2.1 rfl dX16_assemble_170 rfl ?_
        refine ks_tv ((K3.2.2 93 (by decide)).trans v93) ?_
        refine ks_iconst (x := nI 4) dX16_assemble_173 (by decide) rfl ?_
        refine ks_callV (n := 2) (M' := mX16_make) (c_md_makeN K3.2.1 B3 (n := 4) (by decide) (by first | omega | (simp only [List.length_append, bytL_len, numL_len, List.length_nil]; omega))) K3.2.1 cl_X16 rfl kx_1975 kx_1977 kxp_58 kx_30 kx_1978 (by decide +kernel) rfl (by decide) (Nat.le_of_ble_eq_true rfl) rfl dX16_assemble_174 rfl (fun z4 T4 y4 => ?_)
        obtain ⟨rfl, V4, J4, B4⟩ := y4
        have K4 := K3.trans J4
        refine ks_aload_n dX16_assemble_177 rfl rfl ?_
        refine ks_iload_n dX16_assemble_178 rfl rfl ?_
        refine ks_iconst (x := nI 2) dX16_assemble_179 (by decide) rfl ?_
        refine ks_icmp_neN (tgt := 190) (by decide) (by decide) dX16_assemble_180 (by decide) rfl (fun hc180 => ?_) (fun hc180 => ?_)
        · refine ks_iload_n dX16_assemble_190 rfl rfl ?_
          refine ks_i2l dX16_assemble_191 rfl ?_
          refine ks_iconst (x := nI 4) dX16_assemble_192 (by decide) rfl ?_
          refine ks_callV (n := 2) (M' := mX16_make) (c_md_makeN K4.2.1 B4 (n := 4) (by decide) (by first | omega | (simp only [List.length_append, bytL_len, numL_len, List.length_nil]; omega))) K4.2.1 cl_X16 rfl kx_1975 kx_1977 kxp_58 kx_30 kx_1978 (by decide +kernel) rfl (by decide) (Nat.le_of_ble_eq_true rfl) rfl dX16_assemble_193 rfl (fun z5 T5 y5 => ?_)
          obtain ⟨rfl, V5, J5, B5⟩ := y5
          have K5 := K4.trans J5
          refine ks_aload_n dX16_assemble_196 rfl rfl ?_
          refine ks_lconst (x := lN 0) dX16_assemble_197 (by decide) rfl ?_
          refine ks_iconst (x := nI 4) dX16_assemble_198 (by decide) rfl ?_
          refine ks_callV (n := 2) (M' := mX16_make) (c_md_makeN K5.2.1 B5 (n := 4) (by decide) (by first | omega | (simp only [List.length_append, bytL_len, numL_len, List.length_nil]; omega))) K5.2.1 cl_X16 rfl kx_1975 kx_1977 kxp_58 kx_30 kx_1978 (by decide +kernel) rfl (by decide) (Nat.le_of_ble_eq_true rfl) rfl dX16_assemble_199 rfl (fun z6 T6 y6 => ?_)
          obtain ⟨rfl, V6, J6, B6⟩ := y6
          have K6 := K5.trans J6
          refine ks_aload_n dX16_assemble_202 rfl rfl ?_
          refine ks_aload_n dX16_assemble_203 rfl rfl ?_
          refine ks_getf (T := TX16) (kf := 94) kx_2462 rfl in_X16 cl_X16 (by decide) K6.2.1 rfl dX16_assemble_204 rfl ?_
          refine ks_tv ((K6.2.2 94 (by decide)).trans v94) ?_
          refine ks_callV (n := 1) (M' := mX16_makeCount) (c_md_makeCount K6.2.1 B6 (n := t) (by omega) (by first | omega | (simp only [List.length_append, bytL_len, numL_len, List.length_nil]; omega))) K6.2.1 cl_X16 rfl kx_1979 kx_1981 kxp_59 kx_30 kx_1982 (by decide +kernel) rfl (by decide) (Nat.le_of_ble_eq_true rfl) rfl dX16_assemble_207 rfl (fun z7 T7 y7 => ?_)
          obtain ⟨rfl, V7, J7, B7⟩ := y7
          have K7 := K6.trans J7
          refine ks_iconst (x := nI 0) dX16_assemble_210 (by decide) rfl ?_
          refine ks_istore_n dX16_assemble_211 (by decide) rfl ?_
          refine ks_sub [(3, _), (0, _), (1, _), (2, _)] rfl ?_
          obtain ⟨m9, em9⟩ : ∃ m, m = drH 4 (bytL (hsB (bkM (B q))) 0 32) dt (nI bt) D t ++ cntL t := ⟨_, rfl⟩
          have lm9 : m9.length ≤ 100 := by
            rw [em9, List.length_append, drH_len9 (bytL_len _ _ _)]
            have := cntL_le t
            omega
          have B9 : buX T7 V7 529 131072 107 m9 := by
            have eR : bytL (drR 4 D t) 0 32 = bytL gr 0 32 := bytL_congr (fun j hj => by
              rw [Nat.zero_add, hgr j hj]
              exact if_neg (fun h => absurd h.1 (by decide)))
            have eH : bytL (hsB (bkM (B q))) 0 32 = bytL ghq 0 32 := bytL_congr (fun j hj => by rw [Nat.zero_add]; exact (ahq j hj).symm)
            have e9 : m9 = [] ++ numL (lN 2) 4 ++ bytL ghq 0 32 ++ bytL gr 0 32 ++ numL dt 4 ++ numL (nI bt).toInt64 4 ++ numL (lN 0) 4 ++ cntL t := by
              rw [em9]
              unfold drH
              rw [eR, eH]
              first | rfl | (simp only [List.nil_append, List.append_assoc]; rfl) | (rw [← numL0_8]; simp only [List.nil_append, List.append_assoc]; rfl)
            rw [e9]
            exact B7
          have D9 := hD.up K7.1 (fun x hx => by simp only [List.mem_cons, List.not_mem_nil, or_false] at hx; omega)
          exact ks_sub [(0, _), (1, _), (2, _), (3, .int (nI 0))] rfl (l_asT K7.2.1 D9 ((K7.2.2 94 (by decide)).trans v94) lm9 (fun S9 V9 J9 B9 => ks_sub [(0, _), (1, _), (2, _)] rfl (hk S9 V9 (K7.trans J9) (by rw [em9] at B9; exact B9))) t 0 T7 _ (Nat.zero_add _) ⟨ks_up.rf _ _, K7.2.1, fun _ _ => rfl⟩ (by rw [show catT D 0 = [] from rfl, List.append_nil]; exact B9))
        · exact absurd hc180 (by decide)
      · exact absurd hc153 (by decide)
    · exact absurd hc95 (by decide)
set_option maxRecDepth 100000 in
set_option maxHeartbeats 1600000 in
theorem l_asBQ5 {l : Launch} {G : ks_G} {d : Nat} {S : ks_S} {V : Nat → Value} {t bt : Nat} {dt : Int64} {D : Nat → dTx} {g0 gr : Nat → Nat} (hO : S.2.2 290 = some (rfE V)) (hD : rdS S t D) (v94 : V 94 = .int (nI t)) (v93 : V 93 = .long dt) {n q : Nat} {B : Nat → Bk} (v92 : V 92 = .int (nI q)) (hR : rbS S n B) (hq : q < n) (h529 : S.2.2 529 = some (kB 131072 g0)) (k0 : kO g0) (h357 : S.2.2 357 = some (kB 32 gr)) (kgr : kO gr) (hgr : ∀ j, j < 32 → gr j = root_ (idG D) t j) {P9 : Option Value → ks_S → Prop} (hk : ∀ (S1 : ks_S) (V1 : Nat → Value), buK S S1 V V1 529 107 → buX S1 V1 529 131072 107 (drH 5 (bytL (hsB (bkM (B q))) 0 32) dt (nI bt) D t ++ cntL t ++ catT D t) → ks_X l G mX16_assemble (d + 5) 231 [(0, .ref 290), (1, .int (nI 5)), (2, .int (nI bt))] [] S1 P9) : ks_X l G mX16_assemble (d + 5) 64 [(0, .ref 290), (1, .int (nI 5)), (2, .int (nI bt))] [] S P9 := by
  have ht := hD.1
  obtain ⟨⟨bf, h341, hbf⟩, hB9, hn61⟩ := id hR
  obtain ⟨obq, -, ⟨ghq, ehq, khq, ahq⟩, -, hq5, hqB⟩ := hB9 q hq
  refine ks_aload_n dX16_assemble_64 rfl rfl ?_
  refine ks_iconst (x := nI 0) dX16_assemble_65 (by decide) rfl ?_
  refine ks_putf (T := TX16) (kf := 107) kx_2475 rfl in_X16 tyX16_ok nmX16 cl_X16 (by decide) hO (Nat.le_of_ble_eq_true rfl) rfl rfl rfl rfl dX16_assemble_66 rfl ?_
  refine md_put mdp_107 ?_
  refine ks_nm (fun T0 e0 => ?_)
  have u0 : ks_up S T0 [290] := by rw [e0]; exact ks_up_set _ _ (List.mem_singleton.mpr rfl)
  have o0 : T0.2.2 290 = some (rfE (va_up V 107 (.int (nI 0)))) := by rw [e0]; exact ks_set_same _ _ _
  clear e0
  have K0 : buK S T0 V (va_up V 107 (.int (nI 0))) 529 107 := ⟨u0.mono (by decide), o0, fun k hk => va_up_ne _ _ hk⟩
  have B0 : buX T0 (va_up V 107 (.int (nI 0))) 529 131072 107 [] := ⟨va_up_self _ _ _, g0, u0.at h529 (by decide), k0, Nat.zero_le _, rfl⟩
  refine ks_aload_n dX16_assemble_69 rfl rfl ?_
  refine ks_iload_n dX16_assemble_70 rfl rfl ?_
  refine ks_iconst (x := nI 4) dX16_assemble_71 (by decide) rfl ?_
  refine ks_icmp_neN (tgt := 81) (by decide) (by decide) dX16_assemble_72 (by decide) rfl (fun hc72 => ?_) (fun hc72 => ?_)
  · refine ks_lconst (x := lN 1) dX16_assemble_81 (by decide) rfl ?_
    refine ks_iconst (x := nI 4) dX16_assemble_82 (by decide) rfl ?_
    refine ks_callV (n := 2) (M' := mX16_make) (c_md_makeN K0.2.1 B0 (n := 4) (by decide) (by first | omega | (simp only [List.length_append, bytL_len, numL_len, List.length_nil]; omega))) K0.2.1 cl_X16 rfl kx_1975 kx_1977 kxp_58 kx_30 kx_1978 (by decide +kernel) rfl (by decide) (Nat.le_of_ble_eq_true rfl) rfl dX16_assemble_83 rfl (fun z1 T1 y1 => ?_)
    obtain ⟨rfl, V1, J1, B1⟩ := y1
    have K1 := K0.trans J1
    refine ks_aload_n dX16_assemble_86 rfl rfl ?_
    refine ks_getf (T := TX16) (kf := 92) kx_2460 rfl in_X16 cl_X16 (by decide) K1.2.1 rfl dX16_assemble_87 rfl ?_
    refine ks_tv ((K1.2.2 92 (by decide)).trans v92) ?_
    refine ks_if_ltN (tgt := 98) (by omega) dX16_assemble_90 (by decide) rfl ?_
    refine ks_iload_n dX16_assemble_93 rfl rfl ?_
    refine ks_iconst (x := nI 5) dX16_assemble_94 (by decide) rfl ?_
    refine ks_icmp_neN (tgt := 121) (by decide) (by decide) dX16_assemble_95 (by decide) rfl (fun hc95 => ?_) (fun hc95 => ?_)
    · exact absurd hc95 (by decide)
    · refine ks_iconst (x := nI 0) dX16_assemble_98 (by decide) rfl ?_
      refine ks_istore_n dX16_assemble_99 (by decide) rfl ?_
      refine ks_sub [(3, _), (0, _), (1, _), (2, _)] rfl ?_
      refine ks_iload_n dX16_assemble_100 rfl rfl ?_
      refine ks_iconst (x := nI 4) dX16_assemble_101 (by decide) rfl ?_
      refine ks_icmp_geN (tgt := 118) (by decide) (by decide) dX16_assemble_102 (by decide) rfl (fun hc102 => ?_) (fun hc102 => ?_)
      · exact absurd hc102 (by decide)
      · refine ks_aload_n dX16_assemble_105 rfl rfl ?_
        refine ks_lconst (x := lN 0) dX16_assemble_106 (by decide) rfl ?_
        refine ks_bipush (x := nI 8) dX16_assemble_107 (by decide) rfl ?_
        refine ks_callV (n := 2) (M' := mX16_make) (c_md_makeN K1.2.1 B1 (n := 8) (by decide) (by first | omega | (simp only [List.length_append, bytL_len, numL_len, List.length_nil]; omega))) K1.2.1 cl_X16 rfl kx_1975 kx_1977 kxp_58 kx_30 kx_1978 (by decide +kernel) rfl (by decide) (Nat.le_of_ble_eq_true rfl) rfl dX16_assemble_109 rfl (fun z2 T2 y2 => ?_)
        obtain ⟨rfl, V2, J2, B2⟩ := y2
        have K2 := K1.trans J2
        refine ks_incN (c := 1) (e := 1) dX16_assemble_112 rfl (by decide) rfl (by decide) rfl ?_
        refine ks_sub [(3, _), (0, _), (1, _), (2, _)] rfl ?_
        refine ks_goto (tgt := 100) dX16_assemble_115 (by decide) ?_
        refine ks_iload_n dX16_assemble_100 rfl rfl ?_
        refine ks_iconst (x := nI 4) dX16_assemble_101 (by decide) rfl ?_
        refine ks_icmp_geN (tgt := 118) (by decide) (by decide) dX16_assemble_102 (by decide) rfl (fun hc102 => ?_) (fun hc102 => ?_)
        · exact absurd hc102 (by decide)
        · refine ks_aload_n dX16_assemble_105 rfl rfl ?_
          refine ks_lconst (x := lN 0) dX16_assemble_106 (by decide) rfl ?_
          refine ks_bipush (x := nI 8) dX16_assemble_107 (by decide) rfl ?_
          refine ks_callV (n := 2) (M' := mX16_make) (c_md_makeN K2.2.1 B2 (n := 8) (by decide) (by first | omega | (simp only [List.length_append, bytL_len, numL_len, List.length_nil]; omega))) K2.2.1 cl_X16 rfl kx_1975 kx_1977 kxp_58 kx_30 kx_1978 (by decide +kernel) rfl (by decide) (Nat.le_of_ble_eq_true rfl) rfl dX16_assemble_109 rfl (fun z3 T3 y3 => ?_)
          obtain ⟨rfl, V3, J3, B3⟩ := y3
          have K3 := K2.trans J3
          refine ks_incN (c := 1) (e := 2) dX16_assemble_112 rfl (by decide) rfl (by decide) rfl ?_
          refine ks_sub [(3, _), (0, _), (1, _), (2, _)] rfl ?_
          refine ks_goto (tgt := 100) dX16_assemble_115 (by decide) ?_
          refine ks_iload_n dX16_assemble_100 rfl rfl ?_
          refine ks_iconst (x := nI 4) dX16_assemble_101 (by decide) rfl ?_
          refine ks_icmp_geN (tgt := 118) (by decide) (by decide) dX16_assemble_102 (by decide) rfl (fun hc102 => ?_) (fun hc102 => ?_)
          · exact absurd hc102 (by decide)
          · refine ks_aload_n dX16_assemble_105 rfl rfl ?_
            refine ks_lconst (x := lN 0) dX16_assemble_106 (by decide) rfl ?_
            refine ks_bipush (x := nI 8) dX16_assemble_107 (by decide) rfl ?_
            refine ks_callV (n := 2) (M' := mX16_make) (c_md_makeN K3.2.1 B3 (n := 8) (by decide) (by first | omega | (simp only [List.length_append, bytL_len, numL_len, List.length_nil]; omega))) K3.2.1 cl_X16 rfl kx_1975 kx_1977 kxp_58 kx_30 kx_1978 (by decide +kernel) rfl (by decide) (Nat.le_of_ble_eq_true rfl) rfl dX16_assemble_109 rfl (fun z4 T4 y4 => ?_)
            obtain ⟨rfl, V4, J4, B4⟩ := y4
            have K4 := K3.trans J4
            refine ks_incN (c := 1) (e := 3) dX16_assemble_112 rfl (by decide) rfl (by decide) rfl ?_
            refine ks_sub [(3, _), (0, _), (1, _), (2, _)] rfl ?_
            refine ks_goto (tgt := 100) dX16_assemble_115 (by decide) ?_
            refine ks_iload_n dX16_assemble_100 rfl rfl ?_
            refine ks_iconst (x := nI 4) dX16_assemble_101 (by decide) rfl ?_
            refine ks_icmp_geN (tgt := 118) (by decide) (by decide) dX16_assemble_102 (by decide) rfl (fun hc102 => ?_) (fun hc102 => ?_)
            · exact absurd hc102 (by decide)
            · refine ks_aload_n dX16_assemble_105 rfl rfl ?_
              refine ks_lconst (x := lN 0) dX16_assemble_106 (by decide) rfl ?_
              refine ks_bipush (x := nI 8) dX16_assemble_107 (by decide) rfl ?_
              refine ks_callV (n := 2) (M' := mX16_make) (c_md_makeN K4.2.1 B4 (n := 8) (by decide) (by first | omega | (simp only [List.length_append, bytL_len, numL_len, List.length_nil]; omega))) K4.2.1 cl_X16 rfl kx_1975 kx_1977 kxp_58 kx_30 kx_1978 (by decide +kernel) rfl (by decide) (Nat.le_of_ble_eq_true rfl) rfl dX16_assemble_109 rfl (fun z5 T5 y5 => ?_)
              obtain ⟨rfl, V5, J5, B5⟩ := y5
              have K5 := K4.trans J5
              refine ks_incN (c := 1) (e := 4) dX16_assemble_112 rfl (by decide) rfl (by decide) rfl ?_
              refine ks_sub [(3, _), (0, _), (1, _), (2, _)] rfl ?_
              refine ks_goto (tgt := 100) dX16_assemble_115 (by decide) ?_
              refine ks_iload_n dX16_assemble_100 rfl rfl ?_
              refine ks_iconst (x := nI 4) dX16_assemble_101 (by decide) rfl ?_
              refine ks_icmp_geN (tgt := 118) (by decide) (by decide) dX16_assemble_102 (by decide) rfl (fun hc102 => ?_) (fun hc102 => ?_)
              · refine ks_goto (tgt := 140) dX16_assemble_118 (by decide) ?_
                refine ks_aload_n dX16_assemble_140 rfl rfl ?_
                refine ks_aload_n dX16_assemble_141 rfl rfl ?_
                refine ks_getf (T := TX16) (kf := 60) kx_2428 rfl in_X16 cl_X16 (by decide) K5.2.1 rfl dX16_assemble_142 rfl ?_
                refine ks_iconst (x := nI 0) dX16_assemble_145 (by decide) rfl ?_
                refine ks_bipush (x := nI 32) dX16_assemble_146 (by decide) rfl ?_
                refine ks_callV (n := 3) (M' := mX16_make_) (c_md_makeB K5.2.1 B5 (s := 0) (n := 32) (K5.1.at h357 (by decide)) kgr (by decide) (by decide) (by decide) (by first | omega | (simp only [List.length_append, bytL_len, numL_len, List.length_nil]; omega))) K5.2.1 cl_X16 rfl kx_1984 kx_1986 kxp_60 kx_30 kx_1987 (by decide +kernel) rfl (by decide) (Nat.le_of_ble_eq_true rfl) rfl dX16_assemble_148 rfl (fun z6 T6 y6 => ?_)
                obtain ⟨rfl, V6, J6, B6⟩ := y6
                have K6 := K5.trans J6
                refine ks_iload_n dX16_assemble_151 rfl rfl ?_
                refine ks_iconst (x := nI 1) dX16_assemble_152 (by decide) rfl ?_
                refine ks_icmp_neN (tgt := 168) (by decide) (by decide) dX16_assemble_153 (by decide) rfl (fun hc153 => ?_) (fun hc153 => ?_)
                · refine ks_aload_n dX16_assemble_168 rfl rfl ?_
                  refine ks_aload_n dX16_assemble_169 rfl rfl ?_
                  refine ks_getf (T := TX16) (kf := 93) kx_2461 rfl in_X16 cl_X16 (by decide) K6.2.1 rfl dX16_assemble_170 rfl ?_
                  refine ks_tv ((K6.2.2 93 (by decide)).trans v93) ?_
                  refine ks_iconst (x := nI 4) dX16_assemble_173 (by decide) rfl ?_
                  refine ks_callV (n := 2) (M' := mX16_make) (c_md_makeN K6.2.1 B6 (n := 4) (by decide) (by first | omega | (simp only [List.length_append, bytL_len, numL_len, List.length_nil]; omega))) K6.2.1 cl_X16 rfl kx_1975 kx_1977 kxp_58 kx_30 kx_1978 (by decide +kernel) rfl (by decide) (Nat.le_of_ble_eq_true rfl) rfl dX16_assemble_174 rfl (fun z7 T7 y7 => ?_)
                  obtain ⟨rfl, V7, J7, B7⟩ := y7
                  have K7 := K6.trans J7
                  refine ks_aload_n dX16_assemble_177 rfl rfl ?_
                  refine ks_iload_n dX16_assemble_178 rfl rfl ?_
                  refine ks_iconst (x := nI 2) dX16_assemble_179 (by decide) rfl ?_
                  refine ks_icmp_neN (tgt := 190) (by decide) (by decide) dX16_assemble_180 (by decide) rfl (fun hc180 => ?_) (fun hc180 => ?_)
                  · refine ks_iload_n dX16_assemble_190 rfl rfl ?_
                    refine ks_i2l dX16_assemble_191 rfl ?_
                    refine ks_iconst (x := nI 4) dX16_assemble_192 (by decide) rfl ?_
                    refine ks_callV (n := 2) (M' := mX16_make) (c_md_makeN K7.2.1 B7 (n := 4) (by decide) (by first | omega | (simp only [List.length_append, bytL_len, numL_len, List.length_nil]; omega))) K7.2.1 cl_X16 rfl kx_1975 kx_1977 kxp_58 kx_30 kx_1978 (by decide +kernel) rfl (by decide) (Nat.le_of_ble_eq_true rfl) rfl dX16_assemble_193 rfl (fun z8 T8 y8 => ?_)
                    obtain ⟨rfl, V8, J8, B8⟩ := y8
                    have K8 := K7.trans J8
                    refine ks_aload_n dX16_assemble_196 rfl rfl ?_
                    refine ks_lconst (x := lN 0) dX16_assemble_197 (by decide) rfl ?_
                    refine ks_iconst (x := nI 4) dX16_assemble_198 (by decide) rfl ?_
                    refine ks_callV (n := 2) (M' := mX16_make) (c_md_makeN K8.2.1 B8 (n := 4) (by decide) (by first | omega | (simp only [List.length_append, bytL_len, numL_len, List.length_nil]; omega))) K8.2.1 cl_X16 rfl kx_1975 kx_1977 kxp_58 kx_30 kx_1978 (by decide +kernel) rfl (by decide) (Nat.le_of_ble_eq_true rfl) rfl dX16_assemble_199 rfl (fun z9 T9 y9 => ?_)
                    obtain ⟨rfl, V9, J9, B9⟩ := y9
                    have K9 := K8.trans J9
                    refine ks_aload_n dX16_assemble_202 rfl rfl ?_
                    refine ks_aload_n dX16_assemble_203 rfl rfl ?_
                    refine ks_getf (T := TX16) (kf := 94) kx_2462 rfl in_X16 cl_X16 (by decide) K9.2.1 rfl dX16_assemble_204 rfl ?_
                    refine ks_tv ((K9.2.2 94 (by decide)).trans v94) ?_
                    refine ks_callV (n := 1) (M' := mX16_makeCount) (c_md_makeCount K9.2.1 B9 (n := t) (by omega) (by first | omega | (simp only [List.length_append, bytL_len, numL_len, List.length_nil]; omega))) K9.2.1 cl_X16 rfl kx_1979 kx_1981 kxp_59 kx_30 kx_1982 (by decide +kernel) rfl (by decide) (Nat.le_of_ble_eq_true rfl) rfl dX16_assemble_207 rfl (fun z10 T10 y10 => ?_)
                    obtain ⟨rfl, V10, J10, B10⟩ := y10
                    have K10 := K9.trans J10
                    refine ks_iconst (x := nI 0) dX16_assemble_210 (by decide) rfl ?_
                    refine ks_istore_n dX16_assemble_211 (by decide) rfl ?_
                    refine ks_sub [(3, _), (0, _), (1, _), (2, _)] rfl ?_
                    obtain ⟨m9, em9⟩ : ∃ m, m = drH 5 (bytL (hsB (bkM (B q))) 0 32) dt (nI bt) D t ++ cntL t := ⟨_, rfl⟩
                    have lm9 : m9.length ≤ 100 := by
                      rw [em9, List.length_append, drH_len9 (bytL_len _ _ _)]
                      have := cntL_le t
                      omega
                    have B9 : buX T10 V10 529 131072 107 m9 := by
                      have eR : bytL (drR 5 D t) 0 32 = bytL gr 0 32 := bytL_congr (fun j hj => by
                        rw [Nat.zero_add, hgr j hj]
                        exact if_neg (fun h => absurd h.1 (by decide)))
                      have e9 : m9 = [] ++ numL (lN 1) 4 ++ numL (lN 0) 8 ++ numL (lN 0) 8 ++ numL (lN 0) 8 ++ numL (lN 0) 8 ++ bytL gr 0 32 ++ numL dt 4 ++ numL (nI bt).toInt64 4 ++ numL (lN 0) 4 ++ cntL t := by
                        rw [em9]
                        unfold drH
                        rw [eR]
                        first | rfl | (simp only [List.nil_append, List.append_assoc]; rfl) | (rw [← numL0_8]; simp only [List.nil_append, List.append_assoc]; rfl)
                      rw [e9]
                      exact B10
                    have D9 := hD.up K10.1 (fun x hx => by simp only [List.mem_cons, List.not_mem_nil, or_false] at hx; omega)
                    exact ks_sub [(0, _), (1, _), (2, _), (3, .int (nI 0))] rfl (l_asT K10.2.1 D9 ((K10.2.2 94 (by decide)).trans v94) lm9 (fun S9 V9 J9 B9 => ks_sub [(0, _), (1, _), (2, _)] rfl (hk S9 V9 (K10.trans J9) (by rw [em9] at B9; exact B9))) t 0 T10 _ (Nat.zero_add _) ⟨ks_up.rf _ _, K10.2.1, fun _ _ => rfl⟩ (by rw [show catT D 0 = [] from rfl, List.append_nil]; exact B9))
                  · exact absurd hc180 (by decide)
                · exact absurd hc153 (by decide)
              · exact absurd hc102 (by decide)
  · exact absurd hc72 (by decide)
set_option maxRecDepth 100000 in
set_option maxHeartbeats 1600000 in
theorem l_asBZ0 {l : Launch} {G : ks_G} {d : Nat} {S : ks_S} {V : Nat → Value} {t bt : Nat} {dt : Int64} {D : Nat → dTx} {g0 gr : Nat → Nat} (hO : S.2.2 290 = some (rfE V)) (hD : rdS S t D) (v94 : V 94 = .int (nI t)) (v93 : V 93 = .long dt) (v92 : V 92 = .int (nI 0 - 1)) (h529 : S.2.2 529 = some (kB 131072 g0)) (k0 : kO g0) (h357 : S.2.2 357 = some (kB 32 gr)) (kgr : kO gr) (hgr : ∀ j, j < 32 → gr j = root_ (idG D) t j) {P9 : Option Value → ks_S → Prop} (hk : ∀ (S1 : ks_S) (V1 : Nat → Value), buK S S1 V V1 529 107 → buX S1 V1 529 131072 107 (drH 0 (bytL (fun _ => 0) 0 32) dt (nI bt) D t ++ cntL t ++ catT D t) → ks_X l G mX16_assemble (d + 5) 231 [(0, .ref 290), (1, .int (nI 0)), (2, .int (nI bt))] [] S1 P9) : ks_X l G mX16_assemble (d + 5) 64 [(0, .ref 290), (1, .int (nI 0)), (2, .int (nI bt))] [] S P9 := by
  have ht := hD.1
  refine ks_aload_n dX16_assemble_64 rfl rfl ?_
  refine ks_iconst (x := nI 0) dX16_assemble_65 (by decide) rfl ?_
  refine ks_putf (T := TX16) (kf := 107) kx_2475 rfl in_X16 tyX16_ok nmX16 cl_X16 (by decide) hO (Nat.le_of_ble_eq_true rfl) rfl rfl rfl rfl dX16_assemble_66 rfl ?_
  refine md_put mdp_107 ?_
  refine ks_nm (fun T0 e0 => ?_)
  have u0 : ks_up S T0 [290] := by rw [e0]; exact ks_up_set _ _ (List.mem_singleton.mpr rfl)
  have o0 : T0.2.2 290 = some (rfE (va_up V 107 (.int (nI 0)))) := by rw [e0]; exact ks_set_same _ _ _
  clear e0
  have K0 : buK S T0 V (va_up V 107 (.int (nI 0))) 529 107 := ⟨u0.mono (by decide), o0, fun k hk => va_up_ne _ _ hk⟩
  have B0 : buX T0 (va_up V 107 (.int (nI 0))) 529 131072 107 [] := ⟨va_up_self _ _ _, g0, u0.at h529 (by decide), k0, Nat.zero_le _, rfl⟩
  refine ks_aload_n dX16_assemble_69 rfl rfl ?_
  refine ks_iload_n dX16_assemble_70 rfl rfl ?_
  refine ks_iconst (x := nI 4) dX16_assemble_71 (by decide) rfl ?_
  refine ks_icmp_neN (tgt := 81) (by decide) (by decide) dX16_assemble_72 (by decide) rfl (fun hc72 => ?_) (fun hc72 => ?_)
  · refine ks_lconst (x := lN 1) dX16_assemble_81 (by decide) rfl ?_
    refine ks_iconst (x := nI 4) dX16_assemble_82 (by decide) rfl ?_
    refine ks_callV (n := 2) (M' := mX16_make) (c_md_makeN K0.2.1 B0 (n := 4) (by decide) (by first | omega | (simp only [List.length_append, bytL_len, numL_len, List.length_nil]; omega))) K0.2.1 cl_X16 rfl kx_1975 kx_1977 kxp_58 kx_30 kx_1978 (by decide +kernel) rfl (by decide) (Nat.le_of_ble_eq_true rfl) rfl dX16_assemble_83 rfl (fun z1 T1 y1 => ?_)
    obtain ⟨rfl, V1, J1, B1⟩ := y1
    have K1 := K0.trans J1
    refine ks_aload_n dX16_assemble_86 rfl rfl ?_
    refine ks_getf (T := TX16) (kf := 92) kx_2460 rfl in_X16 cl_X16 (by decide) K1.2.1 rfl dX16_assemble_87 rfl ?_
    refine ks_tv ((K1.2.2 92 (by decide)).trans v92) ?_
    refine ks_if_ltD (tgt := 98) (by omega) dX16_assemble_90 (by decide) rfl (fun hc90 => ?_) (fun hc90 => ?_)
    · refine ks_iconst (x := nI 0) dX16_assemble_98 (by decide) rfl ?_
      refine ks_istore_n dX16_assemble_99 (by decide) rfl ?_
      refine ks_sub [(3, _), (0, _), (1, _), (2, _)] rfl ?_
      refine ks_iload_n dX16_assemble_100 rfl rfl ?_
      refine ks_iconst (x := nI 4) dX16_assemble_101 (by decide) rfl ?_
      refine ks_icmp_geN (tgt := 118) (by decide) (by decide) dX16_assemble_102 (by decide) rfl (fun hc102 => ?_) (fun hc102 => ?_)
      · exact absurd hc102 (by decide)
      · refine ks_aload_n dX16_assemble_105 rfl rfl ?_
        refine ks_lconst (x := lN 0) dX16_assemble_106 (by decide) rfl ?_
        refine ks_bipush (x := nI 8) dX16_assemble_107 (by decide) rfl ?_
        refine ks_callV (n := 2) (M' := mX16_make) (c_md_makeN K1.2.1 B1 (n := 8) (by decide) (by first | omega | (simp only [List.length_append, bytL_len, numL_len, List.length_nil]; omega))) K1.2.1 cl_X16 rfl kx_1975 kx_1977 kxp_58 kx_30 kx_1978 (by decide +kernel) rfl (by decide) (Nat.le_of_ble_eq_true rfl) rfl dX16_assemble_109 rfl (fun z2 T2 y2 => ?_)
        obtain ⟨rfl, V2, J2, B2⟩ := y2
        have K2 := K1.trans J2
        refine ks_incN (c := 1) (e := 1) dX16_assemble_112 rfl (by decide) rfl (by decide) rfl ?_
        refine ks_sub [(3, _), (0, _), (1, _), (2, _)] rfl ?_
        refine ks_goto (tgt := 100) dX16_assemble_115 (by decide) ?_
        refine ks_iload_n dX16_assemble_100 rfl rfl ?_
        refine ks_iconst (x := nI 4) dX16_assemble_101 (by decide) rfl ?_
        refine ks_icmp_geN (tgt := 118) (by decide) (by decide) dX16_assemble_102 (by decide) rfl (fun hc102 => ?_) (fun hc102 => ?_)
        · exact absurd hc102 (by decide)
        · refine ks_aload_n dX16_assemble_105 rfl rfl ?_
          refine ks_lconst (x := lN 0) dX16_assemble_106 (by decide) rfl ?_
          refine ks_bipush (x := nI 8) dX16_assemble_107 (by decide) rfl ?_
          refine ks_callV (n := 2) (M' := mX16_make) (c_md_makeN K2.2.1 B2 (n := 8) (by decide) (by first | omega | (simp only [List.length_append, bytL_len, numL_len, List.length_nil]; omega))) K2.2.1 cl_X16 rfl kx_1975 kx_1977 kxp_58 kx_30 kx_1978 (by decide +kernel) rfl (by decide) (Nat.le_of_ble_eq_true rfl) rfl dX16_assemble_109 rfl (fun z3 T3 y3 => ?_)
          obtain ⟨rfl, V3, J3, B3⟩ := y3
          have K3 := K2.trans J3
          refine ks_incN (c := 1) (e := 2) dX16_assemble_112 rfl (by decide) rfl (by decide) rfl ?_
          refine ks_sub [(3, _), (0, _), (1, _), (2, _)] rfl ?_
          refine ks_goto (tgt := 100) dX16_assemble_115 (by decide) ?_
          refine ks_iload_n dX16_assemble_100 rfl rfl ?_
          refine ks_iconst (x := nI 4) dX16_assemble_101 (by decide) rfl ?_
          refine ks_icmp_geN (tgt := 118) (by decide) (by decide) dX16_assemble_102 (by decide) rfl (fun hc102 => ?_) (fun hc102 => ?_)
          · exact absurd hc102 (by decide)
          · refine ks_aload_n dX16_assemble_105 rfl rfl ?_
            refine ks_lconst (x := lN 0) dX16_assemble_106 (by decide) rfl ?_
            refine ks_bipush (x := nI 8) dX16_assemble_107 (by decide) rfl ?_
            refine ks_callV (n := 2) (M' := mX16_make) (c_md_makeN K3.2.1 B3 (n := 8) (by decide) (by first | omega | (simp only [List.length_append, bytL_len, numL_len, List.length_nil]; omega))) K3.2.1 cl_X16 rfl kx_1975 kx_1977 kxp_58 kx_30 kx_1978 (by decide +kernel) rfl (by decide) (Nat.le_of_ble_eq_true rfl) rfl dX16_assemble_109 rfl (fun z4 T4 y4 => ?_)
            obtain ⟨rfl, V4, J4, B4⟩ := y4
            have K4 := K3.trans J4
            refine ks_incN (c := 1) (e := 3) dX16_assemble_112 rfl (by decide) rfl (by decide) rfl ?_
            refine ks_sub [(3, _), (0, _), (1, _), (2, _)] rfl ?_
            refine ks_goto (tgt := 100) dX16_assemble_115 (by decide) ?_
            refine ks_iload_n dX16_assemble_100 rfl rfl ?_
            refine ks_iconst (x := nI 4) dX16_assemble_101 (by decide) rfl ?_
            refine ks_icmp_geN (tgt := 118) (by decide) (by decide) dX16_assemble_102 (by decide) rfl (fun hc102 => ?_) (fun hc102 => ?_)
            · exact absurd hc102 (by decide)
            · refine ks_aload_n dX16_assemble_105 rfl rfl ?_
              refine ks_lconst (x := lN 0) dX16_assemble_106 (by decide) rfl ?_
              refine ks_bipush (x := nI 8) dX16_assemble_107 (by decide) rfl ?_
              refine ks_callV (n := 2) (M' := mX16_make) (c_md_makeN K4.2.1 B4 (n := 8) (by decide) (by first | omega | (simp only [List.length_append, bytL_len, numL_len, List.length_nil]; omega))) K4.2.1 cl_X16 rfl kx_1975 kx_1977 kxp_58 kx_30 kx_1978 (by decide +kernel) rfl (by decide) (Nat.le_of_ble_eq_true rfl) rfl dX16_assemble_109 rfl (fun z5 T5 y5 => ?_)
              obtain ⟨rfl, V5, J5, B5⟩ := y5
              have K5 := K4.trans J5
              refine ks_incN (c := 1) (e := 4) dX16_assemble_112 rfl (by decide) rfl (by decide) rfl ?_
              refine ks_sub [(3, _), (0, _), (1, _), (2, _)] rfl ?_
              refine ks_goto (tgt := 100) dX16_assemble_115 (by decide) ?_
              refine ks_iload_n dX16_assemble_100 rfl rfl ?_
              refine ks_iconst (x := nI 4) dX16_assemble_101 (by decide) rfl ?_
              refine ks_icmp_geN (tgt := 118) (by decide) (by decide) dX16_assemble_102 (by decide) rfl (fun hc102 => ?_) (fun hc102 => ?_)
              · refine ks_goto (tgt := 140) dX16_assemble_118 (by decide) ?_
                refine ks_aload_n dX16_assemble_140 rfl rfl ?_
                refine ks_aload_n dX16_assemble_141 rfl rfl ?_
                refine ks_getf (T := TX16) (kf := 60) kx_2428 rfl in_X16 cl_X16 (by decide) K5.2.1 rfl dX16_assemble_142 rfl ?_
                refine ks_iconst (x := nI 0) dX16_assemble_145 (by decide) rfl ?_
                refine ks_bipush (x := nI 32) dX16_assemble_146 (by decide) rfl ?_
                refine ks_callV (n := 3) (M' := mX16_make_) (c_md_makeB K5.2.1 B5 (s := 0) (n := 32) (K5.1.at h357 (by decide)) kgr (by decide) (by decide) (by decide) (by first | omega | (simp only [List.length_append, bytL_len, numL_len, List.length_nil]; omega))) K5.2.1 cl_X16 rfl kx_1984 kx_1986 kxp_60 kx_30 kx_1987 (by decide +kernel) rfl (by decide) (Nat.le_of_ble_eq_true rfl) rfl dX16_assemble_148 rfl (fun z6 T6 y6 => ?_)
                obtain ⟨rfl, V6, J6, B6⟩ := y6
                have K6 := K5.trans J6
                refine ks_iload_n dX16_assemble_151 rfl rfl ?_
                refine ks_iconst (x := nI 1) dX16_assemble_152 (by decide) rfl ?_
                refine ks_icmp_neN (tgt := 168) (by decide) (by decide) dX16_assemble_153 (by decide) rfl (fun hc153 => ?_) (fun hc153 => ?_)
                · refine ks_aload_n dX16_assemble_168 rfl rfl ?_
                  refine ks_aload_n dX16_assemble_169 rfl rfl ?_
                  refine ks_getf (T := TX16) (kf := 93) kx_2461 rfl in_X16 cl_X16 (by decide) K6.2.1 rfl dX16_assemble_170 rfl ?_
                  refine ks_tv ((K6.2.2 93 (by decide)).trans v93) ?_
                  refine ks_iconst (x := nI 4) dX16_assemble_173 (by decide) rfl ?_
                  refine ks_callV (n := 2) (M' := mX16_make) (c_md_makeN K6.2.1 B6 (n := 4) (by decide) (by first | omega | (simp only [List.length_append, bytL_len, numL_len, List.length_nil]; omega))) K6.2.1 cl_X16 rfl kx_1975 kx_1977 kxp_58 kx_30 kx_1978 (by decide +kernel) rfl (by decide) (Nat.le_of_ble_eq_true rfl) rfl dX16_assemble_174 rfl (fun z7 T7 y7 => ?_)
                  obtain ⟨rfl, V7, J7, B7⟩ := y7
                  have K7 := K6.trans J7
                  refine ks_aload_n dX16_assemble_177 rfl rfl ?_
                  refine ks_iload_n dX16_assemble_178 rfl rfl ?_
                  refine ks_iconst (x := nI 2) dX16_assemble_179 (by decide) rfl ?_
                  refine ks_icmp_neN (tgt := 190) (by decide) (by decide) dX16_assemble_180 (by decide) rfl (fun hc180 => ?_) (fun hc180 => ?_)
                  · refine ks_iload_n dX16_assemble_190 rfl rfl ?_
                    refine ks_i2l dX16_assemble_191 rfl ?_
                    refine ks_iconst (x := nI 4) dX16_assemble_192 (by decide) rfl ?_
                    refine ks_callV (n := 2) (M' := mX16_make) (c_md_makeN K7.2.1 B7 (n := 4) (by decide) (by first | omega | (simp only [List.length_append, bytL_len, numL_len, List.length_nil]; omega))) K7.2.1 cl_X16 rfl kx_1975 kx_1977 kxp_58 kx_30 kx_1978 (by decide +kernel) rfl (by decide) (Nat.le_of_ble_eq_true rfl) rfl dX16_assemble_193 rfl (fun z8 T8 y8 => ?_)
                    obtain ⟨rfl, V8, J8, B8⟩ := y8
                    have K8 := K7.trans J8
                    refine ks_aload_n dX16_assemble_196 rfl rfl ?_
                    refine ks_lconst (x := lN 0) dX16_assemble_197 (by decide) rfl ?_
                    refine ks_iconst (x := nI 4) dX16_assemble_198 (by decide) rfl ?_
                    refine ks_callV (n := 2) (M' := mX16_make) (c_md_makeN K8.2.1 B8 (n := 4) (by decide) (by first | omega | (simp only [List.length_append, bytL_len, numL_len, List.length_nil]; omega))) K8.2.1 cl_X16 rfl kx_1975 kx_1977 kxp_58 kx_30 kx_1978 (by decide +kernel) rfl (by decide) (Nat.le_of_ble_eq_true rfl) rfl dX16_assemble_199 rfl (fun z9 T9 y9 => ?_)
                    obtain ⟨rfl, V9, J9, B9⟩ := y9
                    have K9 := K8.trans J9
                    refine ks_aload_n dX16_assemble_202 rfl rfl ?_
                    refine ks_aload_n dX16_assemble_203 rfl rfl ?_
                    refine ks_getf (T := TX16) (kf := 94) kx_2462 rfl in_X16 cl_X16 (by decide) K9.2.1 rfl dX16_assemble_204 rfl ?_
                    refine ks_tv ((K9.2.2 94 (by decide)).trans v94) ?_
                    refine ks_callV (n := 1) (M' := mX16_makeCount) (c_md_makeCount K9.2.1 B9 (n := t) (by omega) (by first | omega | (simp only [List.length_append, bytL_len, numL_len, List.length_nil]; omega))) K9.2.1 cl_X16 rfl kx_1979 kx_1981 kxp_59 kx_30 kx_1982 (by decide +kernel) rfl (by decide) (Nat.le_of_ble_eq_true rfl) rfl dX16_assemble_207 rfl (fun z10 T10 y10 => ?_)
                    obtain ⟨rfl, V10, J10, B10⟩ := y10
                    have K10 := K9.trans J10
                    refine ks_iconst (x := nI 0) dX16_assemble_210 (by decide) rfl ?_
                    refine ks_istore_n dX16_assemble_211 (by decide) rfl ?_
                    refine ks_sub [(3, _), (0, _), (1, _), (2, _)] rfl ?_
                    obtain ⟨m9, em9⟩ : ∃ m, m = drH 0 (bytL (fun _ => 0) 0 32) dt (nI bt) D t ++ cntL t := ⟨_, rfl⟩
                    have lm9 : m9.length ≤ 100 := by
                      rw [em9, List.length_append, drH_len9 (bytL_len _ _ _)]
                      have := cntL_le t
                      omega
                    have B9 : buX T10 V10 529 131072 107 m9 := by
                      have eR : bytL (drR 0 D t) 0 32 = bytL gr 0 32 := bytL_congr (fun j hj => by
                        rw [Nat.zero_add, hgr j hj]
                        exact if_neg (fun h => absurd h.1 (by decide)))
                      have e9 : m9 = [] ++ numL (lN 1) 4 ++ numL (lN 0) 8 ++ numL (lN 0) 8 ++ numL (lN 0) 8 ++ numL (lN 0) 8 ++ bytL gr 0 32 ++ numL dt 4 ++ numL (nI bt).toInt64 4 ++ numL (lN 0) 4 ++ cntL t := by
                        rw [em9]
                        unfold drH
                        rw [eR]
                        first | rfl | (simp only [List.nil_append, List.append_assoc]; rfl) | (rw [← numL0_8]; simp only [List.nil_append, List.append_assoc]; rfl)
                      rw [e9]
                      exact B10
                    have D9 := hD.up K10.1 (fun x hx => by simp only [List.mem_cons, List.not_mem_nil, or_false] at hx; omega)
                    exact ks_sub [(0, _), (1, _), (2, _), (3, .int (nI 0))] rfl (l_asT K10.2.1 D9 ((K10.2.2 94 (by decide)).trans v94) lm9 (fun S9 V9 J9 B9 => ks_sub [(0, _), (1, _), (2, _)] rfl (hk S9 V9 (K10.trans J9) (by rw [em9] at B9; exact B9))) t 0 T10 _ (Nat.zero_add _) ⟨ks_up.rf _ _, K10.2.1, fun _ _ => rfl⟩ (by rw [show catT D 0 = [] from rfl, List.append_nil]; exact B9))
                  · exact absurd hc180 (by decide)
                · exact absurd hc153 (by decide)
              · exact absurd hc102 (by decide)
    · exact absurd rfl hc90
  · exact absurd hc72 (by decide)
