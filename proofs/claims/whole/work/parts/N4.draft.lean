/-! THE REFERENCE: drafts -/
def rdG : Nat → Option Nat := fun i => if i < 72 then some (381 + i) else none
def rdH : Nat → Option Nat := fun i => if i < 72 then some (456 + i) else none
def rdI (ids : Nat → Nat) (ix : Nat → Int32) (sc : Nat → Nat → Nat) (iln : Nat → Nat) (seq : Nat → Int64) (r : Nat) : dIn := (bytL ids (36 * r) 32, ix r, bytL (sc r) 0 (iln r), seq r)
def rdO (val : Nat → Int64) (so : Nat → Nat → Nat) (oln : Nat → Nat) (r : Nat) : dOut := (val r, bytL (so r) 0 (oln r))
def rdU (S : ks_S) (ver loc : Nat → Int64) (inp out ids : Nat → Nat) (ix : Nat → Int32) (seq : Nat → Int64) (iln : Nat → Nat) (val : Nat → Int64) (oln : Nat → Nat) (sc so : Nat → Nat → Nat) : Prop :=
  (S.2.2 374 = some (kJ 12 ver) ∧ S.2.2 375 = some (kJ 12 loc) ∧ S.2.2 376 = some (kN 12 inp) ∧ S.2.2 377 = some (kN 12 out)) ∧ (S.2.2 378 = some (kB 2592 ids) ∧ kO ids) ∧ (S.2.2 379 = some (kJ 72 seq) ∧ S.2.2 453 = some (kN 72 iln) ∧ S.2.2 454 = some (kJ 72 val) ∧ S.2.2 528 = some (kN 72 oln)) ∧ (S.2.2 380 = some (kA 4 72 rdG) ∧ S.2.2 455 = some (kA 4 72 rdH)) ∧ (∀ r, r < 72 → S.2.2 (381 + r) = some (kB 600 (sc r))) ∧ (∀ r, kO (sc r)) ∧ (∀ r, r < 72 → S.2.2 (456 + r) = some (kB 600 (so r))) ∧ (∀ r, kO (so r)) ∧ ∀ r, r < 72 → bytL ids (36 * r + 32) 4 = numL (ix r).toInt64 4
def rdA (ver loc : Nat → Int64) (inp out ids : Nat → Nat) (ix : Nat → Int32) (seq : Nat → Int64) (iln : Nat → Nat) (val : Nat → Int64) (oln : Nat → Nat) (sc so : Nat → Nat → Nat) (i : Nat) (D : dTx) : Prop :=
  D = (ver i, loc i, (List.range (inp i)).map (fun j => rdI ids ix sc iln seq (6 * i + j)), (List.range (out i)).map (fun j => rdO val so oln (6 * i + j))) ∧ inp i ≤ 6 ∧ out i ≤ 6 ∧ (∀ j, j < inp i → iln (6 * i + j) ≤ 600) ∧ ∀ j, j < out i → oln (6 * i + j) ≤ 600
/-- the draft's transactions -/
def rdS (S : ks_S) (t : Nat) (D : Nat → dTx) : Prop := t ≤ 12 ∧ ∃ ver loc inp out ids ix seq iln val oln sc so, rdU S ver loc inp out ids ix seq iln val oln sc so ∧ ∀ i, i < t → rdA ver loc inp out ids ix seq iln val oln sc so i (D i)
theorem rdU.fr {S S1 : ks_S} {ver loc : Nat → Int64} {inp out ids : Nat → Nat} {ix : Nat → Int32} {seq : Nat → Int64} {iln : Nat → Nat} {val : Nat → Int64} {oln : Nat → Nat} {sc so : Nat → Nat → Nat} (h : rdU S ver loc inp out ids ix seq iln val oln sc so) (hs : ∀ a e, S.2.2 a = some e → 373 < a → a < 529 → S1.2.2 a = some e) : rdU S1 ver loc inp out ids ix seq iln val oln sc so := by
  obtain ⟨⟨h374, h375, h376, h377⟩, ⟨h378, kid⟩, ⟨h379, h453, h454, h528⟩, ⟨h380, h455⟩, hsc, ksc, hso, kso, hix⟩ := h
  exact ⟨⟨hs _ _ h374 (by decide) (by decide), hs _ _ h375 (by decide) (by decide), hs _ _ h376 (by decide) (by decide), hs _ _ h377 (by decide) (by decide)⟩, ⟨hs _ _ h378 (by decide) (by decide), kid⟩, ⟨hs _ _ h379 (by decide) (by decide), hs _ _ h453 (by decide) (by decide), hs _ _ h454 (by decide) (by decide), hs _ _ h528 (by decide) (by decide)⟩, ⟨hs _ _ h380 (by decide) (by decide), hs _ _ h455 (by decide) (by decide)⟩, fun r hr => hs _ _ (hsc r hr) (by omega) (by omega), ksc, fun r hr => hs _ _ (hso r hr) (by omega) (by omega), kso, hix⟩
theorem rdS.fr {S S1 : ks_S} {t : Nat} {D : Nat → dTx} (h : rdS S t D) (hs : ∀ a e, S.2.2 a = some e → 373 < a → a < 529 → S1.2.2 a = some e) : rdS S1 t D := by
  obtain ⟨ht, ver, loc, inp, out, ids, ix, seq, iln, val, oln, sc, so, U, A⟩ := h
  exact ⟨ht, ver, loc, inp, out, ids, ix, seq, iln, val, oln, sc, so, U.fr hs, A⟩
theorem rdS.up {S S1 : ks_S} {t : Nat} {D : Nat → dTx} {L : List Nat} (h : rdS S t D) (hu : ks_up S S1 L) (hL : ∀ x ∈ L, x < 374 ∨ 528 < x) : rdS S1 t D := h.fr (fun a e h1 h2 h3 => hu.at h1 (fun hm => by have := hL a hm; omega))
theorem rdI_L {ids : Nat → Nat} {ix : Nat → Int32} {sc : Nat → Nat → Nat} {iln : Nat → Nat} {seq : Nat → Int64} {r : Nat} (h : bytL ids (36 * r + 32) 4 = numL (ix r).toInt64 4) : inL (rdI ids ix sc iln seq r) = bytL ids (36 * r) 36 ++ cntL (iln r) ++ bytL (sc r) 0 (iln r) ++ numL (seq r) 4 := by
  show bytL ids (36 * r) 32 ++ numL (ix r).toInt64 4 ++ cntL (bytL (sc r) 0 (iln r)).length ++ bytL (sc r) 0 (iln r) ++ numL (seq r) 4 = _
  rw [bytL_len, ← h, ← bytL_app]
theorem rdO_L {val : Nat → Int64} {so : Nat → Nat → Nat} {oln : Nat → Nat} {r : Nat} : outL (rdO val so oln r) = numL (val r) 8 ++ cntL (oln r) ++ bytL (so r) 0 (oln r) := by
  show numL (val r) 8 ++ cntL (bytL (so r) 0 (oln r)).length ++ bytL (so r) 0 (oln r) = _
  rw [bytL_len]
theorem rd_catI {ids : Nat → Nat} {ix : Nat → Int32} {sc : Nat → Nat → Nat} {iln : Nat → Nat} {seq : Nat → Int64} {b : Nat} : ∀ {k : Nat}, (∀ j, j < k → iln (b + j) ≤ 600) → (catL inL ((List.range k).map (fun j => rdI ids ix sc iln seq (b + j)))).length ≤ 643 * k
  | 0, _ => Nat.le_refl _
  | k + 1, h => by
    rw [catL_s, List.length_append]
    have h1 := rd_catI (ids := ids) (ix := ix) (sc := sc) (seq := seq) (k := k) (fun j hj => h j (by omega))
    have h2 := h k (by omega)
    have h3 : (inL (rdI ids ix sc iln seq (b + k))).length ≤ 43 + iln (b + k) := by
      show (bytL ids (36 * (b + k)) 32 ++ numL (ix (b + k)).toInt64 4 ++ cntL (bytL (sc (b + k)) 0 (iln (b + k))).length ++ bytL (sc (b + k)) 0 (iln (b + k)) ++ numL (seq (b + k)) 4).length ≤ _
      have := cntL_le (bytL (sc (b + k)) 0 (iln (b + k))).length
      simp only [List.length_append, bytL_len, numL_len] at this ⊢
      omega
    omega
theorem rd_catO {val : Nat → Int64} {so : Nat → Nat → Nat} {oln : Nat → Nat} {b : Nat} : ∀ {k : Nat}, (∀ j, j < k → oln (b + j) ≤ 600) → (catL outL ((List.range k).map (fun j => rdO val so oln (b + j)))).length ≤ 611 * k
  | 0, _ => Nat.le_refl _
  | k + 1, h => by
    rw [catL_s, List.length_append]
    have h1 := rd_catO (val := val) (so := so) (k := k) (fun j hj => h j (by omega))
    have h2 := h k (by omega)
    have h3 : (outL (rdO val so oln (b + k))).length ≤ 11 + oln (b + k) := by
      rw [rdO_L]
      have := cntL_le (oln (b + k))
      simp only [List.length_append, bytL_len, numL_len]
      omega
    omega
set_option maxRecDepth 100000 in
set_option maxHeartbeats 800000 in
theorem l_mtI {l : Launch} {G : ks_G} {d : Nat} {S : ks_S} {V : Nat → Value} {m : List Nat} {i : Nat} {ver loc : Nat → Int64} {inp out ids : Nat → Nat} {ix : Nat → Int32} {seq : Nat → Int64} {iln : Nat → Nat} {val : Nat → Int64} {oln : Nat → Nat} {sc so : Nat → Nat → Nat} (hO : S.2.2 290 = some (rfE V)) (U : rdU S ver loc inp out ids ix seq iln val oln sc so) (hi : i < 12) (h6 : inp i ≤ 6) (hl : ∀ j, j < inp i → iln (6 * i + j) ≤ 600) (hm : m.length + 643 * 6 + 10 ≤ 131072) {P9 : Option Value → ks_S → Prop} (hk : ∀ (S1 : ks_S) (V1 : Nat → Value), buK S S1 V V1 529 107 → buX S1 V1 529 131072 107 (m ++ catL inL ((List.range (inp i)).map (fun j => rdI ids ix sc iln seq (6 * i + j)))) → ks_X l G mX16_makeTx (d + 2) 99 [(0, .ref 290), (1, .int (nI i))] [] S1 P9) : ∀ (u j : Nat) (S1 : ks_S) (V1 : Nat → Value), j + u = inp i → buK S S1 V V1 529 107 → buX S1 V1 529 131072 107 (m ++ catL inL ((List.range j).map (fun j => rdI ids ix sc iln seq (6 * i + j)))) → ks_X l G mX16_makeTx (d + 2) 26 [(0, .ref 290), (1, .int (nI i)), (2, .int (nI (6 * i + j)))] [] S1 P9 := by
  obtain ⟨⟨h374, h375, h376, h377⟩, ⟨h378, kid⟩, ⟨h379, h453, h454, h528⟩, ⟨h380, h455⟩, hsc, ksc, hso, kso, hix⟩ := id U
  intro u
  induction u with
  | zero =>
    intro j S1 V1 hj K1 B1
    obtain rfl : j = inp i := hj
    refine ks_iload_n dX16_makeTx_26 rfl rfl ?_
    refine ks_bipush (x := nI 6) dX16_makeTx_27 (by decide) rfl ?_
    refine ks_iload_n dX16_makeTx_29 rfl rfl ?_
    refine ks_mulN dX16_makeTx_30 rfl ?_
    refine ks_aload_n dX16_makeTx_31 rfl rfl ?_
    refine ks_getf (T := TX16) (kf := 97) kx_2465 rfl in_X16 cl_X16 (by decide) K1.2.1 rfl dX16_makeTx_32 rfl ?_
    refine ks_iload_n dX16_makeTx_35 rfl rfl ?_
    refine ks_ialdN (i := i) (K1.1.at h376 (by decide)) rfl (by omega) (by decide) dX16_makeTx_36 rfl ?_
    refine ks_addN dX16_makeTx_37 rfl ?_
    refine ks_icmp_geN (tgt := 99) (by omega) (by omega) dX16_makeTx_38 (by decide) rfl (fun h1 => ?_) (fun h1 => absurd h1 (by omega))
    refine ks_sub [(0, _), (1, _)] rfl (hk S1 V1 K1 B1)
  | succ u ih =>
    intro j S1 V1 hj K1 B1
    refine ks_iload_n dX16_makeTx_26 rfl rfl ?_
    refine ks_bipush (x := nI 6) dX16_makeTx_27 (by decide) rfl ?_
    refine ks_iload_n dX16_makeTx_29 rfl rfl ?_
    refine ks_mulN dX16_makeTx_30 rfl ?_
    refine ks_aload_n dX16_makeTx_31 rfl rfl ?_
    refine ks_getf (T := TX16) (kf := 97) kx_2465 rfl in_X16 cl_X16 (by decide) K1.2.1 rfl dX16_makeTx_32 rfl ?_
    refine ks_iload_n dX16_makeTx_35 rfl rfl ?_
    refine ks_ialdN (i := i) (K1.1.at h376 (by decide)) rfl (by omega) (by decide) dX16_makeTx_36 rfl ?_
    refine ks_addN dX16_makeTx_37 rfl ?_
    refine ks_icmp_geN (tgt := 99) (by omega) (by omega) dX16_makeTx_38 (by decide) rfl (fun h1 => absurd h1 (by omega)) (fun h1 => ?_)
    obtain ⟨X, eX⟩ : ∃ X, X = (m ++ catL inL ((List.range j).map (fun j => rdI ids ix sc iln seq (6 * i + j)))) := ⟨_, rfl⟩
    rw [← eX] at B1
    have lX : X.length ≤ m.length + 643 * j := by
      rw [eX, List.length_append]
      have := rd_catI (ids := ids) (ix := ix) (sc := sc) (iln := iln) (seq := seq) (b := 6 * i) (k := j) (fun z hz => hl z (by omega))
      omega
    have hlj := hl j (by omega)
    have hcj := cntL_le (iln (6 * i + j))
    refine ks_aload_n dX16_makeTx_41 rfl rfl ?_
    refine ks_aload_n dX16_makeTx_42 rfl rfl ?_
    refine ks_getf (T := TX16) (kf := 99) kx_2467 rfl in_X16 cl_X16 (by decide) K1.2.1 rfl dX16_makeTx_43 rfl ?_
    refine ks_bipush (x := nI 36) dX16_makeTx_46 (by decide) rfl ?_
    refine ks_iload_n dX16_makeTx_48 rfl rfl ?_
    refine ks_mulN dX16_makeTx_49 rfl ?_
    refine ks_bipush (x := nI 36) dX16_makeTx_50 (by decide) rfl ?_
    refine ks_callV (n := 3) (M' := mX16_make_) (c_md_makeB K1.2.1 B1 (s := 36 * (6 * i + j)) (n := 36) (K1.1.at h378 (by decide)) kid (by omega) (by decide) (by decide) (by first | omega | (simp only [List.length_append, bytL_len, numL_len]; omega))) K1.2.1 cl_X16 rfl kx_1984 kx_1986 kxp_60 kx_30 kx_1987 (by decide +kernel) rfl (by decide) (Nat.le_of_ble_eq_true rfl) rfl dX16_makeTx_52 rfl (fun z2 S2 y2 => ?_)
    obtain ⟨rfl, V2, J2, B2⟩ := y2
    have K2 := K1.trans J2
    refine ks_aload_n dX16_makeTx_55 rfl rfl ?_
    refine ks_aload_n dX16_makeTx_56 rfl rfl ?_
    refine ks_getf (T := TX16) (kf := 102) kx_2470 rfl in_X16 cl_X16 (by decide) K2.2.1 rfl dX16_makeTx_57 rfl ?_
    refine ks_iload_n dX16_makeTx_60 rfl rfl ?_
    refine ks_ialdN (i := 6 * i + j) (K2.1.at h453 (by decide)) rfl (by omega) (by decide) dX16_makeTx_61 rfl ?_
    refine ks_callV (n := 1) (M' := mX16_makeCount) (c_md_makeCount K2.2.1 B2 (n := iln (6 * i + j)) (by omega) (by first | omega | (simp only [List.length_append, bytL_len, numL_len]; omega))) K2.2.1 cl_X16 rfl kx_1979 kx_1981 kxp_59 kx_30 kx_1982 (by decide +kernel) rfl (by decide) (Nat.le_of_ble_eq_true rfl) rfl dX16_makeTx_62 rfl (fun z3 S3 y3 => ?_)
    obtain ⟨rfl, V3, J3, B3⟩ := y3
    have K3 := K2.trans J3
    have s3 : S3.2.2 (381 + (6 * i + j)) = some (kB 600 (sc (6 * i + j))) := K3.1.at (hsc (6 * i + j) (by omega)) (by simp only [List.mem_cons, List.not_mem_nil, or_false]; omega)
    refine ks_aload_n dX16_makeTx_65 rfl rfl ?_
    refine ks_aload_n dX16_makeTx_66 rfl rfl ?_
    refine ks_getf (T := TX16) (kf := 101) kx_2469 rfl in_X16 cl_X16 (by decide) K3.2.1 rfl dX16_makeTx_67 rfl ?_
    refine ks_iload_n dX16_makeTx_70 rfl rfl ?_
    refine ks_aaldN (i := 6 * i + j) (b := (381 + (6 * i + j))) (by decide) (K3.1.at h380 (by decide)) rfl (by omega) (by decide) (if_pos (by omega)) dX16_makeTx_71 rfl ?_
    refine ks_iconst (x := nI 0) dX16_makeTx_72 (by decide) rfl ?_
    refine ks_aload_n dX16_makeTx_73 rfl rfl ?_
    refine ks_getf (T := TX16) (kf := 102) kx_2470 rfl in_X16 cl_X16 (by decide) K3.2.1 rfl dX16_makeTx_74 rfl ?_
    refine ks_iload_n dX16_makeTx_77 rfl rfl ?_
    refine ks_ialdN (i := 6 * i + j) (K3.1.at h453 (by decide)) rfl (by omega) (by decide) dX16_makeTx_78 rfl ?_
    refine ks_callV (n := 3) (M' := mX16_make_) (c_md_makeB K3.2.1 B3 (s := 0) (n := iln (6 * i + j)) s3 (ksc _) (by omega) (by decide) (by omega) (by first | omega | (simp only [List.length_append, bytL_len, numL_len]; omega))) K3.2.1 cl_X16 rfl kx_1984 kx_1986 kxp_60 kx_30 kx_1987 (by decide +kernel) rfl (by decide) (Nat.le_of_ble_eq_true rfl) rfl dX16_makeTx_79 rfl (fun z4 S4 y4 => ?_)
    obtain ⟨rfl, V4, J4, B4⟩ := y4
    have K4 := K3.trans J4
    refine ks_aload_n dX16_makeTx_82 rfl rfl ?_
    refine ks_aload_n dX16_makeTx_83 rfl rfl ?_
    refine ks_getf (T := TX16) (kf := 100) kx_2468 rfl in_X16 cl_X16 (by decide) K4.2.1 rfl dX16_makeTx_84 rfl ?_
    refine ks_iload_n dX16_makeTx_87 rfl rfl ?_
    refine ks_laldN (i := 6 * i + j) (K4.1.at h379 (by decide)) rfl (by omega) (by decide) dX16_makeTx_88 rfl ?_
    refine ks_iconst (x := nI 4) dX16_makeTx_89 (by decide) rfl ?_
    refine ks_callV (n := 2) (M' := mX16_make) (c_md_makeN K4.2.1 B4 (n := 4) (by decide) (by first | omega | (simp only [List.length_append, bytL_len, numL_len]; omega))) K4.2.1 cl_X16 rfl kx_1975 kx_1977 kxp_58 kx_30 kx_1978 (by decide +kernel) rfl (by decide) (Nat.le_of_ble_eq_true rfl) rfl dX16_makeTx_90 rfl (fun z5 S5 y5 => ?_)
    obtain ⟨rfl, V5, J5, B5⟩ := y5
    have K5 := K4.trans J5
    refine ks_incN (c := 1) (e := 6 * i + j + 1) dX16_makeTx_93 rfl (by decide) rfl (by decide) rfl ?_
    refine ks_sub [(2, _), (0, _), (1, _)] rfl ?_
    refine ks_goto (tgt := 26) dX16_makeTx_96 (by decide) ?_
    refine ks_sub [(0, _), (1, _), (2, _)] rfl (ih (j + 1) S5 V5 (by omega) K5 ?_)
    rw [catL_s, rdI_L (hix (6 * i + j) (by omega)), ← List.append_assoc, ← eX, ← List.append_assoc, ← List.append_assoc, ← List.append_assoc]
    exact B5
set_option maxRecDepth 100000 in
set_option maxHeartbeats 800000 in
theorem l_mtO {l : Launch} {G : ks_G} {d : Nat} {S : ks_S} {V : Nat → Value} {m : List Nat} {i : Nat} {ver loc : Nat → Int64} {inp out ids : Nat → Nat} {ix : Nat → Int32} {seq : Nat → Int64} {iln : Nat → Nat} {val : Nat → Int64} {oln : Nat → Nat} {sc so : Nat → Nat → Nat} (hO : S.2.2 290 = some (rfE V)) (U : rdU S ver loc inp out ids ix seq iln val oln sc so) (hi : i < 12) (h6 : out i ≤ 6) (hl : ∀ j, j < out i → oln (6 * i + j) ≤ 600) (hm : m.length + 611 * 6 + 10 ≤ 131072) {P9 : Option Value → ks_S → Prop} (hk : ∀ (S1 : ks_S) (V1 : Nat → Value), buK S S1 V V1 529 107 → buX S1 V1 529 131072 107 (m ++ catL outL ((List.range (out i)).map (fun j => rdO val so oln (6 * i + j)))) → ks_X l G mX16_makeTx (d + 2) 174 [(0, .ref 290), (1, .int (nI i))] [] S1 P9) : ∀ (u j : Nat) (S1 : ks_S) (V1 : Nat → Value), j + u = out i → buK S S1 V V1 529 107 → buX S1 V1 529 131072 107 (m ++ catL outL ((List.range j).map (fun j => rdO val so oln (6 * i + j)))) → ks_X l G mX16_makeTx (d + 2) 114 [(0, .ref 290), (1, .int (nI i)), (2, .int (nI (6 * i + j)))] [] S1 P9 := by
  obtain ⟨⟨h374, h375, h376, h377⟩, ⟨h378, kid⟩, ⟨h379, h453, h454, h528⟩, ⟨h380, h455⟩, hsc, ksc, hso, kso, hix⟩ := id U
  intro u
  induction u with
  | zero =>
    intro j S1 V1 hj K1 B1
    obtain rfl : j = out i := hj
    refine ks_iload_n dX16_makeTx_114 rfl rfl ?_
    refine ks_bipush (x := nI 6) dX16_makeTx_115 (by decide) rfl ?_
    refine ks_iload_n dX16_makeTx_117 rfl rfl ?_
    refine ks_mulN dX16_makeTx_118 rfl ?_
    refine ks_aload_n dX16_makeTx_119 rfl rfl ?_
    refine ks_getf (T := TX16) (kf := 98) kx_2466 rfl in_X16 cl_X16 (by decide) K1.2.1 rfl dX16_makeTx_120 rfl ?_
    refine ks_iload_n dX16_makeTx_123 rfl rfl ?_
    refine ks_ialdN (i := i) (K1.1.at h377 (by decide)) rfl (by omega) (by decide) dX16_makeTx_124 rfl ?_
    refine ks_addN dX16_makeTx_125 rfl ?_
    refine ks_icmp_geN (tgt := 174) (by omega) (by omega) dX16_makeTx_126 (by decide) rfl (fun h1 => ?_) (fun h1 => absurd h1 (by omega))
    refine ks_sub [(0, _), (1, _)] rfl (hk S1 V1 K1 B1)
  | succ u ih =>
    intro j S1 V1 hj K1 B1
    refine ks_iload_n dX16_makeTx_114 rfl rfl ?_
    refine ks_bipush (x := nI 6) dX16_makeTx_115 (by decide) rfl ?_
    refine ks_iload_n dX16_makeTx_117 rfl rfl ?_
    refine ks_mulN dX16_makeTx_118 rfl ?_
    refine ks_aload_n dX16_makeTx_119 rfl rfl ?_
    refine ks_getf (T := TX16) (kf := 98) kx_2466 rfl in_X16 cl_X16 (by decide) K1.2.1 rfl dX16_makeTx_120 rfl ?_
    refine ks_iload_n dX16_makeTx_123 rfl rfl ?_
    refine ks_ialdN (i := i) (K1.1.at h377 (by decide)) rfl (by omega) (by decide) dX16_makeTx_124 rfl ?_
    refine ks_addN dX16_makeTx_125 rfl ?_
    refine ks_icmp_geN (tgt := 174) (by omega) (by omega) dX16_makeTx_126 (by decide) rfl (fun h1 => absurd h1 (by omega)) (fun h1 => ?_)
    obtain ⟨X, eX⟩ : ∃ X, X = (m ++ catL outL ((List.range j).map (fun j => rdO val so oln (6 * i + j)))) := ⟨_, rfl⟩
    rw [← eX] at B1
    have lX : X.length ≤ m.length + 611 * j := by
      rw [eX, List.length_append]
      have := rd_catO (val := val) (so := so) (oln := oln) (b := 6 * i) (k := j) (fun z hz => hl z (by omega))
      omega
    have hlj := hl j (by omega)
    have hcj := cntL_le (oln (6 * i + j))
    refine ks_aload_n dX16_makeTx_129 rfl rfl ?_
    refine ks_aload_n dX16_makeTx_130 rfl rfl ?_
    refine ks_getf (T := TX16) (kf := 103) kx_2471 rfl in_X16 cl_X16 (by decide) K1.2.1 rfl dX16_makeTx_131 rfl ?_
    refine ks_iload_n dX16_makeTx_134 rfl rfl ?_
    refine ks_laldN (i := 6 * i + j) (K1.1.at h454 (by decide)) rfl (by omega) (by decide) dX16_makeTx_135 rfl ?_
    refine ks_bipush (x := nI 8) dX16_makeTx_136 (by decide) rfl ?_
    refine ks_callV (n := 2) (M' := mX16_make) (c_md_makeN K1.2.1 B1 (n := 8) (by decide) (by first | omega | (simp only [List.length_append, bytL_len, numL_len]; omega))) K1.2.1 cl_X16 rfl kx_1975 kx_1977 kxp_58 kx_30 kx_1978 (by decide +kernel) rfl (by decide) (Nat.le_of_ble_eq_true rfl) rfl dX16_makeTx_138 rfl (fun z2 S2 y2 => ?_)
    obtain ⟨rfl, V2, J2, B2⟩ := y2
    have K2 := K1.trans J2
    refine ks_aload_n dX16_makeTx_141 rfl rfl ?_
    refine ks_aload_n dX16_makeTx_142 rfl rfl ?_
    refine ks_getf (T := TX16) (kf := 105) kx_2473 rfl in_X16 cl_X16 (by decide) K2.2.1 rfl dX16_makeTx_143 rfl ?_
    refine ks_iload_n dX16_makeTx_146 rfl rfl ?_
    refine ks_ialdN (i := 6 * i + j) (K2.1.at h528 (by decide)) rfl (by omega) (by decide) dX16_makeTx_147 rfl ?_
    refine ks_callV (n := 1) (M' := mX16_makeCount) (c_md_makeCount K2.2.1 B2 (n := oln (6 * i + j)) (by omega) (by first | omega | (simp only [List.length_append, bytL_len, numL_len]; omega))) K2.2.1 cl_X16 rfl kx_1979 kx_1981 kxp_59 kx_30 kx_1982 (by decide +kernel) rfl (by decide) (Nat.le_of_ble_eq_true rfl) rfl dX16_makeTx_148 rfl (fun z3 S3 y3 => ?_)
    obtain ⟨rfl, V3, J3, B3⟩ := y3
    have K3 := K2.trans J3
    have s3 : S3.2.2 (456 + (6 * i + j)) = some (kB 600 (so (6 * i + j))) := K3.1.at (hso (6 * i + j) (by omega)) (by simp only [List.mem_cons, List.not_mem_nil, or_false]; omega)
    refine ks_aload_n dX16_makeTx_151 rfl rfl ?_
    refine ks_aload_n dX16_makeTx_152 rfl rfl ?_
    refine ks_getf (T := TX16) (kf := 104) kx_2472 rfl in_X16 cl_X16 (by decide) K3.2.1 rfl dX16_makeTx_153 rfl ?_
    refine ks_iload_n dX16_makeTx_156 rfl rfl ?_
    refine ks_aaldN (i := 6 * i + j) (b := (456 + (6 * i + j))) (by decide) (K3.1.at h455 (by decide)) rfl (by omega) (by decide) (if_pos (by omega)) dX16_makeTx_157 rfl ?_
    refine ks_iconst (x := nI 0) dX16_makeTx_158 (by decide) rfl ?_
    refine ks_aload_n dX16_makeTx_159 rfl rfl ?_
    refine ks_getf (T := TX16) (kf := 105) kx_2473 rfl in_X16 cl_X16 (by decide) K3.2.1 rfl dX16_makeTx_160 rfl ?_
    refine ks_iload_n dX16_makeTx_163 rfl rfl ?_
    refine ks_ialdN (i := 6 * i + j) (K3.1.at h528 (by decide)) rfl (by omega) (by decide) dX16_makeTx_164 rfl ?_
    refine ks_callV (n := 3) (M' := mX16_make_) (c_md_makeB K3.2.1 B3 (s := 0) (n := oln (6 * i + j)) s3 (kso _) (by omega) (by decide) (by omega) (by first | omega | (simp only [List.length_append, bytL_len, numL_len]; omega))) K3.2.1 cl_X16 rfl kx_1984 kx_1986 kxp_60 kx_30 kx_1987 (by decide +kernel) rfl (by decide) (Nat.le_of_ble_eq_true rfl) rfl dX16_makeTx_165 rfl (fun z4 S4 y4 => ?_)
    obtain ⟨rfl, V4, J4, B4⟩ := y4
    have K4 := K3.trans J4
    refine ks_incN (c := 1) (e := 6 * i + j + 1) dX16_makeTx_168 rfl (by decide) rfl (by decide) rfl ?_
    refine ks_sub [(2, _), (0, _), (1, _)] rfl ?_
    refine ks_goto (tgt := 114) dX16_makeTx_171 (by decide) ?_
    refine ks_sub [(0, _), (1, _), (2, _)] rfl (ih (j + 1) S4 V4 (by omega) K4 ?_)
    rw [catL_s, rdO_L, ← List.append_assoc, ← eX, ← List.append_assoc, ← List.append_assoc]
    exact B4
set_option maxRecDepth 100000 in
set_option maxHeartbeats 800000 in
theorem c_md_makeTx {l : Launch} {G : ks_G} {d : Nat} {S : ks_S} {V : Nat → Value} {m : List Nat} {i t : Nat} {D : Nat → dTx} (hO : S.2.2 290 = some (rfE V)) (hD : rdS S t D) (hi : i < t) (hB : buX S V 529 131072 107 m) (hm : m.length + 8000 ≤ 131072) : ks_P l G yX16_makeTx mX16_makeTx (d + 2) [.ref 290, .int (nI i)] S (fun z S' => z = none ∧ ∃ V', buK S S' V V' 529 107 ∧ buX S' V' 529 131072 107 (m ++ txL (D i))) := by
  obtain ⟨ht, ver, loc, inp, out, ids, ix, seq, iln, val, oln, sc, so, U, A⟩ := hD
  obtain ⟨eD, h6, o6, hi6, ho6⟩ := A i hi
  obtain ⟨⟨h374, h375, h376, h377⟩, ⟨h378, kid⟩, ⟨h379, h453, h454, h528⟩, ⟨h380, h455⟩, hsc, ksc, hso, kso, hix⟩ := id U
  refine ks_of (by decide) rfl rfl (Nat.le_of_ble_eq_true rfl) ?_
  show ks_X l G mX16_makeTx (d + 2) 0 [(0, .ref 290), (1, .int (nI i))] [] S _
  have K0 : buK S S V V 529 107 := ⟨ks_up.rf _ _, hO, fun _ _ => rfl⟩
  refine ks_aload_n dX16_makeTx_0 rfl rfl ?_
  refine ks_aload_n dX16_makeTx_1 rfl rfl ?_
  refine ks_getf (T := TX16) (kf := 95) kx_2463 rfl in_X16 cl_X16 (by decide) K0.2.1 rfl dX16_makeTx_2 rfl ?_
  refine ks_iload_n dX16_makeTx_5 rfl rfl ?_
  refine ks_laldN (i := i) (K0.1.at h374 (by decide)) rfl (by omega) (by decide) dX16_makeTx_6 rfl ?_
  refine ks_iconst (x := nI 4) dX16_makeTx_7 (by decide) rfl ?_
  refine ks_callV (n := 2) (M' := mX16_make) (c_md_makeN K0.2.1 hB (n := 4) (by decide) (by omega)) K0.2.1 cl_X16 rfl kx_1975 kx_1977 kxp_58 kx_30 kx_1978 (by decide +kernel) rfl (by decide) (Nat.le_of_ble_eq_true rfl) rfl dX16_makeTx_8 rfl (fun z1 S1 y1 => ?_)
  obtain ⟨rfl, V1, J1, B1⟩ := y1
  have K1 := K0.trans J1
  refine ks_aload_n dX16_makeTx_11 rfl rfl ?_
  refine ks_aload_n dX16_makeTx_12 rfl rfl ?_
  refine ks_getf (T := TX16) (kf := 97) kx_2465 rfl in_X16 cl_X16 (by decide) K1.2.1 rfl dX16_makeTx_13 rfl ?_
  refine ks_iload_n dX16_makeTx_16 rfl rfl ?_
  refine ks_ialdN (i := i) (K1.1.at h376 (by decide)) rfl (by omega) (by decide) dX16_makeTx_17 rfl ?_
  have hc1 := cntL_le (inp i)
  have hc2 := cntL_le (out i)
  refine ks_callV (n := 1) (M' := mX16_makeCount) (c_md_makeCount K1.2.1 B1 (n := inp i) (by omega) (by first | omega | (simp only [List.length_append, bytL_len, numL_len]; omega))) K1.2.1 cl_X16 rfl kx_1979 kx_1981 kxp_59 kx_30 kx_1982 (by decide +kernel) rfl (by decide) (Nat.le_of_ble_eq_true rfl) rfl dX16_makeTx_18 rfl (fun z2 S2 y2 => ?_)
  obtain ⟨rfl, V2, J2, B2⟩ := y2
  have K2 := K1.trans J2
  refine ks_bipush (x := nI 6) dX16_makeTx_21 (by decide) rfl ?_
  refine ks_iload_n dX16_makeTx_23 rfl rfl ?_
  refine ks_mulN dX16_makeTx_24 rfl ?_
  refine ks_istore_n dX16_makeTx_25 (by decide) rfl ?_
  refine ks_sub [(2, _), (0, _), (1, _)] rfl ?_
  have hcI := rd_catI (ids := ids) (ix := ix) (sc := sc) (iln := iln) (seq := seq) (b := 6 * i) (k := inp i) hi6
  have hcO := rd_catO (val := val) (so := so) (oln := oln) (b := 6 * i) (k := out i) ho6
  obtain ⟨X2, eX2⟩ : ∃ X, X = m ++ numL (ver i) 4 ++ cntL (inp i) := ⟨_, rfl⟩
  rw [← eX2] at B2
  have lX2 : X2.length ≤ m.length + 7 := by rw [eX2]; simp only [List.length_append, numL_len]; omega
  have U2 := U.fr (S1 := S2) (fun a e h1 h2 h3 => K2.1.at h1 (by simp only [List.mem_cons, List.not_mem_nil, or_false]; omega))
  refine ks_sub [(0, _), (1, _), (2, .int (nI (6 * i + 0)))] rfl (l_mtI (m := X2) K2.2.1 U2 (by omega) h6 hi6 (by omega) (fun S3 V3 J3 B3 => ?_) (inp i) 0 S2 V2 (Nat.zero_add _) ⟨ks_up.rf _ _, K2.2.1, fun _ _ => rfl⟩ ?_)
  · skip
    have K3 := K2.trans J3
    refine ks_aload_n dX16_makeTx_99 rfl rfl ?_
    refine ks_aload_n dX16_makeTx_100 rfl rfl ?_
    refine ks_getf (T := TX16) (kf := 98) kx_2466 rfl in_X16 cl_X16 (by decide) K3.2.1 rfl dX16_makeTx_101 rfl ?_
    refine ks_iload_n dX16_makeTx_104 rfl rfl ?_
    refine ks_ialdN (i := i) (K3.1.at h377 (by decide)) rfl (by omega) (by decide) dX16_makeTx_105 rfl ?_
    obtain ⟨X3, eX3⟩ : ∃ X, X = X2 ++ catL inL ((List.range (inp i)).map (fun j => rdI ids ix sc iln seq (6 * i + j))) := ⟨_, rfl⟩
    rw [← eX3] at B3
    have lX3 : X3.length ≤ m.length + 7 + 643 * 6 := by rw [eX3, List.length_append]; omega
    refine ks_callV (n := 1) (M' := mX16_makeCount) (c_md_makeCount K3.2.1 B3 (n := out i) (by omega) (by omega)) K3.2.1 cl_X16 rfl kx_1979 kx_1981 kxp_59 kx_30 kx_1982 (by decide +kernel) rfl (by decide) (Nat.le_of_ble_eq_true rfl) rfl dX16_makeTx_106 rfl (fun z4 S4 y4 => ?_)
    obtain ⟨rfl, V4, J4, B4⟩ := y4
    have K4 := K3.trans J4
    refine ks_bipush (x := nI 6) dX16_makeTx_109 (by decide) rfl ?_
    refine ks_iload_n dX16_makeTx_111 rfl rfl ?_
    refine ks_mulN dX16_makeTx_112 rfl ?_
    refine ks_istore_n dX16_makeTx_113 (by decide) rfl ?_
    refine ks_sub [(2, _), (0, _), (1, _)] rfl ?_
    obtain ⟨X4, eX4⟩ : ∃ X, X = X3 ++ cntL (out i) := ⟨_, rfl⟩
    rw [← eX4] at B4
    have lX4 : X4.length ≤ m.length + 10 + 643 * 6 := by rw [eX4, List.length_append]; omega
    have U4 := U.fr (S1 := S4) (fun a e h1 h2 h3 => K4.1.at h1 (by simp only [List.mem_cons, List.not_mem_nil, or_false]; omega))
    refine ks_sub [(0, _), (1, _), (2, .int (nI (6 * i + 0)))] rfl (l_mtO (m := X4) K4.2.1 U4 (by omega) o6 ho6 (by omega) (fun S5 V5 J5 B5 => ?_) (out i) 0 S4 V4 (Nat.zero_add _) ⟨ks_up.rf _ _, K4.2.1, fun _ _ => rfl⟩ ?_)
    · skip
      have K5 := K4.trans J5
      have l5 : (X4 ++ catL outL ((List.range (out i)).map (fun j => rdO val so oln (6 * i + j)))).length ≤ m.length + 10 + 643 * 6 + 611 * 6 := by rw [List.length_append]; omega
      refine ks_aload_n dX16_makeTx_174 rfl rfl ?_
      refine ks_aload_n dX16_makeTx_175 rfl rfl ?_
      refine ks_getf (T := TX16) (kf := 96) kx_2464 rfl in_X16 cl_X16 (by decide) K5.2.1 rfl dX16_makeTx_176 rfl ?_
      refine ks_iload_n dX16_makeTx_179 rfl rfl ?_
      refine ks_laldN (i := i) (K5.1.at h375 (by decide)) rfl (by omega) (by decide) dX16_makeTx_180 rfl ?_
      refine ks_iconst (x := nI 4) dX16_makeTx_181 (by decide) rfl ?_
      refine ks_callV (n := 2) (M' := mX16_make) (c_md_makeN K5.2.1 B5 (n := 4) (by decide) (by omega)) K5.2.1 cl_X16 rfl kx_1975 kx_1977 kxp_58 kx_30 kx_1978 (by decide +kernel) rfl (by decide) (Nat.le_of_ble_eq_true rfl) rfl dX16_makeTx_182 rfl (fun z6 S6 y6 => ?_)
      obtain ⟨rfl, V6, J6, B6⟩ := y6
      have K6 := K5.trans J6
      refine ks_ret rfl dX16_makeTx_185 ?_
      refine ⟨rfl, V6, K6, ?_⟩
      have e9 : m ++ txL (D i) = X4 ++ catL outL ((List.range (out i)).map (fun j => rdO val so oln (6 * i + j))) ++ numL (loc i) 4 := by
        rw [eX4, eX3, eX2, eD]
        unfold txL
        simp only [List.length_map, List.length_range, List.append_assoc]
      rw [e9]
      exact B6
    · rw [show catL outL ((List.range 0).map (fun j => rdO val so oln (6 * i + j))) = [] from rfl, List.append_nil]
      exact B4
  · rw [show catL inL ((List.range 0).map (fun j => rdI ids ix sc iln seq (6 * i + j))) = [] from rfl, List.append_nil]
    exact B2
theorem rdS.le {S : ks_S} {t i : Nat} {D : Nat → dTx} (h : rdS S t D) (hi : i < t) : (txL (D i)).length ≤ 7600 := by
  obtain ⟨ht, ver, loc, inp, out, ids, ix, seq, iln, val, oln, sc, so, U, A⟩ := h
  obtain ⟨eD, h6, o6, hi6, ho6⟩ := A i hi
  have hcI := rd_catI (ids := ids) (ix := ix) (sc := sc) (iln := iln) (seq := seq) (b := 6 * i) (k := inp i) hi6
  have hcO := rd_catO (val := val) (so := so) (oln := oln) (b := 6 * i) (k := out i) ho6
  have hc1 := cntL_le (inp i)
  have hc2 := cntL_le (out i)
  rw [eD]
  unfold txL
  simp only [List.length_append, List.length_map, List.length_range, numL_len]
  omega
set_option maxRecDepth 100000 in
set_option maxHeartbeats 800000 in
theorem c_md_draftId {l : Launch} {G : ks_G} {d : Nat} {S : ks_S} {V : Nat → Value} {i t : Nat} {D : Nat → dTx} {gi g5 g : Nat → Nat} (hO : S.2.2 290 = some (rfE V)) (hD : rdS S t D) (hi : i < t) (h529 : S.2.2 529 = some (kB 131072 g)) (kg : kO g) (hM : mhR S) (h305 : S.2.2 305 = some (kB 32 g5)) (k5 : kO g5) (h530 : S.2.2 530 = some (kB 384 gi)) (kgi : kO gi) : ks_P l G yX16_draftId mX16_draftId (d + 4) [.ref 290, .int (nI i)] S (fun z S' => z = none ∧ ∃ V' X, ks_up S S' [290, 291, 292, 293, 299, 305, 529, 530] ∧ S'.2.2 290 = some (rfE V') ∧ (∀ k, k ≠ 107 → V' k = V k) ∧ buX S' V' 529 131072 107 X ∧ mhR S' ∧ (∃ g, kO g ∧ S'.2.2 305 = some (kB 32 g)) ∧ S'.2.2 530 = some (kB 384 (ks_pt (txI (D i)) gi (32 * i) 32))) := by
  refine ks_of (by decide) rfl rfl (Nat.le_of_ble_eq_true rfl) ?_
  show ks_X l G mX16_draftId (d + 4) 0 [(0, .ref 290), (1, .int (nI i))] [] S _
  have ht := hD.1
  have hle := hD.le hi
  refine ks_aload_n dX16_draftId_0 rfl rfl ?_
  refine ks_iconst (x := nI 0) dX16_draftId_1 (by decide) rfl ?_
  refine ks_putf (T := TX16) (kf := 107) kx_2475 rfl in_X16 tyX16_ok nmX16 cl_X16 (by decide) hO (Nat.le_of_ble_eq_true rfl) rfl rfl rfl rfl dX16_draftId_2 rfl ?_
  refine md_put mdp_107 ?_
  refine ks_aload_n dX16_draftId_5 rfl rfl ?_
  refine ks_iload_n dX16_draftId_6 rfl rfl ?_
  refine ks_nm (fun S1 e1 => ?_)
  have u1 : ks_up S S1 [290] := by rw [e1]; exact ks_up_set _ _ (List.mem_singleton.mpr rfl)
  have o1 : S1.2.2 290 = some (rfE (va_up V 107 (.int (nI 0)))) := by rw [e1]; exact ks_set_same _ _ _
  clear e1
  have B1 : buX S1 (va_up V 107 (.int (nI 0))) 529 131072 107 [] := ⟨va_up_self _ _ _, g, u1.at h529 (by decide), kg, Nat.zero_le _, rfl⟩
  refine ks_callV (n := 1) (M' := mX16_makeTx) (c_md_makeTx o1 (hD.up u1 (fun x hx => by rw [List.mem_singleton] at hx; omega)) hi B1 (by decide)) o1 cl_X16 rfl kx_1971 kx_1973 kxp_57 kx_30 kx_1974 (by decide +kernel) rfl (by decide) (Nat.le_of_ble_eq_true rfl) rfl dX16_draftId_7 rfl (fun z2 S2 y2 => ?_)
  obtain ⟨rfl, V2, K2, v2, g2, e2, kg2, hl2, em2⟩ := y2
  rw [List.nil_append] at v2 hl2 em2
  have m1 : mhR S1 := hM.up u1 (fun x hx => by rw [List.mem_singleton] at hx; omega)
  have m2 : mhR S2 := m1.up K2.1 (fun x hx => by simp only [List.mem_cons, List.not_mem_nil, or_false] at hx; omega)
  have f2 := K2.1.at (u1.at h305 (by decide)) (by decide)
  have i2 := K2.1.at (u1.at h530 (by decide)) (by decide)
  refine ks_aload_n dX16_draftId_10 rfl rfl ?_
  refine ks_aload_n dX16_draftId_11 rfl rfl ?_
  refine ks_getf (T := TX16) (kf := 106) kx_2474 rfl in_X16 cl_X16 (by decide) K2.2.1 rfl dX16_draftId_12 rfl ?_
  refine ks_iconst (x := nI 0) dX16_draftId_15 (by decide) rfl ?_
  refine ks_aload_n dX16_draftId_16 rfl rfl ?_
  refine ks_getf (T := TX16) (kf := 107) kx_2475 rfl in_X16 cl_X16 (by decide) K2.2.1 rfl dX16_draftId_17 rfl ?_
  refine ks_tv v2 ?_
  refine ks_aload_n dX16_draftId_20 rfl rfl ?_
  refine ks_getf (T := TX16) (kf := 108) kx_2476 rfl in_X16 cl_X16 (by decide) K2.2.1 rfl dX16_draftId_21 rfl ?_
  refine ks_bipush (x := nI 32) dX16_draftId_24 (by decide) rfl ?_
  refine ks_iload_n dX16_draftId_26 rfl rfl ?_
  refine ks_mulN dX16_draftId_27 rfl ?_
  refine ks_callV (n := 5) (M' := mX16_again) (c_md_again (d := d) K2.2.1 m2 f2 k5 e2 kg2 (i := 0) (n := (txL (D i)).length) (by omega) (by decide) i2 kgi (oa := 32 * i) (by omega) (by decide) (by decide) (by decide)) K2.2.1 cl_X16 rfl kx_1988 kx_1990 kxp_61 kx_30 kx_1991 (by decide +kernel) rfl (by decide) (Nat.le_of_ble_eq_true rfl) rfl dX16_draftId_28 rfl (fun z3 S3 y3 => ?_)
  obtain ⟨rfl, u3, m3, f3, e3⟩ := y3
  refine ks_ret rfl dX16_draftId_31 ?_
  have sm : ∀ {L : List Nat} {S S' : ks_S}, ks_up S S' L → (∀ a, a ∈ L → a ∈ [290, 291, 292, 293, 299, 305, 529, 530]) → ks_up S S' [290, 291, 292, 293, 299, 305, 529, 530] := fun h k => h.mono k
  refine ⟨rfl, V2, txL (D i), ((sm u1 (by decide)).trans (sm K2.1 (by decide))).trans (sm u3 (by decide)), u3.at K2.2.1 (by decide), fun k hk => (K2.2.2 k hk).trans (va_up_ne _ _ hk), ⟨v2, g2, u3.at e2 (by decide), kg2, hl2, em2⟩, m3, f3, ?_⟩
  have et : twice_ (fun k => g2 (0 + k)) (txL (D i)).length = txI (D i) := twice_congr (fun y hy => by
    have e9 : (txL (D i)).getD y 0 = (bytL g2 0 (txL (D i)).length).getD y 0 := congrArg (fun l : List Nat => l.getD y 0) em2
    rw [bytL_at _ _ _ hy] at e9
    exact e9.symm)
  rw [e3, et]
