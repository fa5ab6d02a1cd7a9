/-! THE REFERENCE: inputs -/
def aiD : Nat → Nat := fun k => if k < 32 then 0 else 255
theorem kO_aiD : kO aiD := fun k => by
  unfold aiD
  split <;> decide
theorem aiD_b (ids : Nat → Nat) (r : Nat) : bytL (ks_pt aiD ids (36 * r) 36) (36 * r) 32 = bytL (fun _ => 0) 0 32 ∧ bytL (ks_pt aiD ids (36 * r) 36) (36 * r + 32) 4 = numL (-1 : Int32).toInt64 4 := by
  constructor
  · refine bytL_congr (fun j hj => ?_)
    rw [ks_pt_in aiD ids (36 * r) 36 (show j < 36 by omega)]
    exact if_pos hj
  · rw [show numL (-1 : Int32).toInt64 4 = bytL (fun _ => 255) 0 4 from by decide]
    refine bytL_congr (fun j hj => ?_)
    rw [Nat.add_assoc, ks_pt_in aiD ids (36 * r) 36 (show 32 + j < 36 by omega)]
    exact if_neg (by omega)
theorem numL_nI {x : Nat} (hx : x < 2 ^ 32) : numL (nI x).toInt64 4 = (List.range 4).map (fun k => x / 256 ^ k % 256) := by
  have e1 : (nI x).toInt64.toBitVec.toNat % 4294967296 = x := by
    show ((nI x).toBitVec.signExtend 64).toNat % 4294967296 = x
    have e2 : (nI x).toBitVec.toNat = x := by
      show (BitVec.ofNat 32 x).toNat = x
      rw [BitVec.toNat_ofNat]
      omega
    rw [BitVec.toNat_signExtend, BitVec.toNat_setWidth, e2]
    split <;> omega
  unfold numL
  refine List.map_congr_left (fun k hk => ?_)
  have hk := List.mem_range.mp hk
  obtain ⟨N, eN⟩ : ∃ N, N = (nI x).toInt64.toBitVec.toNat := ⟨_, rfl⟩
  rw [← eN] at e1 ⊢
  rcases (show k = 0 ∨ k = 1 ∨ k = 2 ∨ k = 3 by omega) with rfl | rfl | rfl | rfl
  · show N / 1 % 256 = x / 1 % 256
    omega
  · show N / 256 % 256 = x / 256 % 256
    omega
  · show N / 65536 % 256 = x / 65536 % 256
    omega
  · show N / 16777216 % 256 = x / 16777216 % 256
    omega
set_option maxRecDepth 100000 in
set_option maxHeartbeats 800000 in
theorem l_aiZ {l : Launch} {G : ks_G} {d : Nat} {S : ks_S} {V : Nat → Value} {i r9 : Nat} {q : Int64} {ids : Nat → Nat} (hO : S.2.2 290 = some (rfE V)) (kid : kO ids) (hr9 : r9 < 72) {P9 : Option Value → ks_S → Prop} (hk : ∀ S1 : ks_S, ks_up S S1 [378] → S1.2.2 378 = some (kB 2592 (ks_pt aiD ids (36 * r9) 36)) → ks_X l G mX16_addInput d 55 [(0, .ref 290), (1, .int (nI i)), (2, .long q), (4, .int (nI r9))] [] S1 P9) : ∀ (u j : Nat) (S1 : ks_S), j + u = 36 → ks_up S S1 [378] → S1.2.2 378 = some (kB 2592 (ks_pt aiD ids (36 * r9) j)) → ks_X l G mX16_addInput d 16 [(0, .ref 290), (1, .int (nI i)), (2, .long q), (4, .int (nI r9)), (5, .int (nI j))] [] S1 P9 := by
  intro u
  induction u with
  | zero =>
    intro j S1 hj hu e1
    have o1 := hu.at hO (by decide)
    obtain rfl : j = 36 := hj
    refine ks_iload dX16_addInput_16 rfl rfl ?_
    refine ks_bipush (x := nI 36) dX16_addInput_18 (by decide) rfl ?_
    refine ks_icmp_geN (tgt := 55) (by decide) (by decide) dX16_addInput_20 (by decide) rfl (fun h1 => ?_) (fun h1 => absurd h1 (by omega))
    exact ks_sub [(0, _), (1, _), (2, _), (4, _)] rfl (hk S1 hu e1)
  | succ u ih =>
    intro j S1 hj hu e1
    have o1 := hu.at hO (by decide)
    refine ks_iload dX16_addInput_16 rfl rfl ?_
    refine ks_bipush (x := nI 36) dX16_addInput_18 (by decide) rfl ?_
    refine ks_icmp_geN (tgt := 55) (by omega) (by decide) dX16_addInput_20 (by decide) rfl (fun h1 => absurd h1 (by omega)) (fun h1 => ?_)
    refine ks_aload_n dX16_addInput_23 rfl rfl ?_
    refine ks_getf (T := TX16) (kf := 99) kx_2467 rfl in_X16 cl_X16 (by decide) o1 rfl dX16_addInput_24 rfl ?_
    refine ks_bipush (x := nI 36) dX16_addInput_27 (by decide) rfl ?_
    refine ks_iload dX16_addInput_29 rfl rfl ?_
    refine ks_mulN dX16_addInput_31 rfl ?_
    refine ks_iload dX16_addInput_32 rfl rfl ?_
    refine ks_addN dX16_addInput_34 rfl ?_
    refine ks_iload dX16_addInput_35 rfl rfl ?_
    refine ks_bipush (x := nI 32) dX16_addInput_37 (by decide) rfl ?_
    refine ks_icmp_geN (tgt := 46) (by omega) (by decide) dX16_addInput_39 (by decide) rfl (fun h2 => ?_) (fun h2 => ?_)
    · refine ks_iconst (x := (-1)) dX16_addInput_46 (by decide) rfl ?_
      refine ks_i2b dX16_addInput_47 rfl ?_
      refine ks_bastB (i := 36 * r9 + j) (c := 255) e1 rfl (by omega) (by decide) (by decide) dX16_addInput_48 rfl ?_
      refine ks_incN (c := 1) (e := j + 1) dX16_addInput_49 rfl (by decide) rfl (by decide) rfl ?_
      refine ks_sub [(5, _), (0, _), (1, _), (2, _), (4, _)] rfl ?_
      refine ks_goto (tgt := 16) dX16_addInput_52 (by decide) ?_
      refine ks_sub [(0, _), (1, _), (2, _), (4, _), (5, _)] rfl (ih (j + 1) _ (by omega) (hu.trans (ks_up_set _ _ (List.mem_singleton.mpr rfl))) ?_)
      rw [ks_set_same, ← ks_pt_s, show aiD j = 255 from if_neg (by omega)]
    · refine ks_iconst (x := nI 0) dX16_addInput_42 (by decide) rfl ?_
      refine ks_goto (tgt := 47) dX16_addInput_43 (by decide) ?_
      refine ks_i2b dX16_addInput_47 rfl ?_
      refine ks_bastB (i := 36 * r9 + j) (c := 0) e1 rfl (by omega) (by decide) ((ks_by_i8 _).trans (ks_by_nI _)) dX16_addInput_48 rfl ?_
      refine ks_incN (c := 1) (e := j + 1) dX16_addInput_49 rfl (by decide) rfl (by decide) rfl ?_
      refine ks_sub [(5, _), (0, _), (1, _), (2, _), (4, _)] rfl ?_
      refine ks_goto (tgt := 16) dX16_addInput_52 (by decide) ?_
      refine ks_sub [(0, _), (1, _), (2, _), (4, _), (5, _)] rfl (ih (j + 1) _ (by omega) (hu.trans (ks_up_set _ _ (List.mem_singleton.mpr rfl))) ?_)
      rw [ks_set_same, ← ks_pt_s, show aiD j = 0 from if_pos (by omega)]
set_option maxRecDepth 100000 in
set_option maxHeartbeats 800000 in
theorem l_aiCp {l : Launch} {G : ks_G} {d : Nat} {S : ks_S} {V : Nat → Value} {P : Option Value → ks_S → Prop} {gd gs : Nat → Nat} {i9 r9 L : Nat} (hO : S.2.2 290 = some (rfE V)) (hs9 : S.2.2 531 = some (kB 1600 gs)) (kgs : kO gs) (hd9 : S.2.2 (381 + r9) = some (kB 600 gd)) (kgd : kO gd) (h380 : S.2.2 380 = some (kA 4 72 rdG)) (hr9 : r9 < 72) (hL : L ≤ 600) (vT : V 110 = .int (nI L)) (hk : ∀ S1 : ks_S, ks_up S S1 [(381 + r9)] → S1.2.2 (381 + r9) = some (kB 600 (ks_pt (fun j => gs (j)) gd 0 L)) → kO (ks_pt (fun j => gs (j)) gd 0 L) → ks_X l G mX16_addInput d 98 [(0, .ref 290), (1, .int (nI i9)), (4, .int (nI r9))] [] S1 P) : ∀ (u i : Nat) (S1 : ks_S), i + u = L → ks_up S S1 [(381 + r9)] → S1.2.2 (381 + r9) = some (kB 600 (ks_pt (fun j => gs (j)) gd 0 i)) → ks_X l G mX16_addInput d 66 [(0, .ref 290), (1, .int (nI i9)), (4, .int (nI r9)), (5, .int (nI i))] [] S1 P := by
  have kD : kO (fun j => gs (j)) := fun j => kgs _
  intro u
  induction u with
  | zero =>
    intro i S1 hi hu e1
    have o1 := hu.at hO (by simp only [List.mem_cons, List.not_mem_nil, or_false]; exact (by omega))
    have s1 := hu.at hs9 (by simp only [List.mem_cons, List.not_mem_nil, or_false]; exact (by omega))
    have q380 := hu.at h380 (by rw [List.mem_singleton]; omega)
    obtain rfl : i = L := hi
    refine ks_iload dX16_addInput_66 rfl rfl ?_
    refine ks_aload_n dX16_addInput_68 rfl rfl ?_
    refine ks_getf (T := TX16) (kf := 110) kx_2478 rfl in_X16 cl_X16 (by decide) o1 rfl dX16_addInput_69 rfl ?_
    refine ks_tv vT ?_
    refine ks_icmp_geN (tgt := 98) (by omega) (by omega) dX16_addInput_72 (by decide) rfl (fun h1 => ?_) (fun h1 => absurd h1 (by omega))
    refine ks_sub [(0, _), (1, _), (4, _)] rfl ?_
    exact hk S1 hu e1 (kO_pt kD kgd _ _)
  | succ u ih =>
    intro i S1 hi hu e1
    have o1 := hu.at hO (by simp only [List.mem_cons, List.not_mem_nil, or_false]; exact (by omega))
    have s1 := hu.at hs9 (by simp only [List.mem_cons, List.not_mem_nil, or_false]; exact (by omega))
    have q380 := hu.at h380 (by rw [List.mem_singleton]; omega)
    refine ks_iload dX16_addInput_66 rfl rfl ?_
    refine ks_aload_n dX16_addInput_68 rfl rfl ?_
    refine ks_getf (T := TX16) (kf := 110) kx_2478 rfl in_X16 cl_X16 (by decide) o1 rfl dX16_addInput_69 rfl ?_
    refine ks_tv vT ?_
    refine ks_icmp_geN (tgt := 98) (by omega) (by omega) dX16_addInput_72 (by decide) rfl (fun h1 => absurd h1 (by omega)) (fun h1 => ?_)
    refine ks_aload_n dX16_addInput_75 rfl rfl ?_
    refine ks_getf (T := TX16) (kf := 101) kx_2469 rfl in_X16 cl_X16 (by decide) o1 rfl dX16_addInput_76 rfl ?_
    refine ks_iload dX16_addInput_79 rfl rfl ?_
    refine ks_aaldN (i := r9) (b := (381 + r9)) (by decide) q380 rfl (by omega) (by decide) (if_pos (by omega)) dX16_addInput_81 rfl ?_
    refine ks_iload dX16_addInput_82 rfl rfl ?_
    refine ks_aload_n dX16_addInput_84 rfl rfl ?_
    refine ks_getf (T := TX16) (kf := 109) kx_2477 rfl in_X16 cl_X16 (by decide) o1 rfl dX16_addInput_85 rfl ?_
    refine ks_iload dX16_addInput_88 rfl rfl ?_
    refine ks_baldB (i := i) s1 rfl (by omega) (by decide) dX16_addInput_90 rfl ?_
    refine ks_bastB (i := i) (c := gs i) e1 rfl (by omega) (by decide) (ks_by_b (kgs _)) dX16_addInput_91 rfl ?_
    refine ks_incN (c := 1) (e := i + 1) dX16_addInput_92 rfl (by decide) rfl (by decide) rfl ?_
    refine ks_sub [(5, _), (0, _), (1, _), (4, _)] rfl ?_
    refine ks_goto (tgt := 66) dX16_addInput_95 (by decide) ?_
    refine ks_sub [(0, _), (1, _), (4, _), (5, _)] rfl (ih (i + 1) _ (by omega) (hu.trans (ks_up_set _ _ (List.mem_singleton.mpr rfl))) ?_)
    rw [ks_set_same, ← ks_pt_s]
    rw [Nat.zero_add]
set_option maxRecDepth 100000 in
set_option maxHeartbeats 1600000 in
theorem c_md_addInput {l : Launch} {G : ks_G} {d : Nat} {S : ks_S} {V : Nat → Value} (hO : S.2.2 290 = some (rfE V)) {T : List Nat} (hB : buX S V 531 1600 110 T) {i : Nat} {q : Int64} {D : Nat → dTx} (hD : rdS S (i + 1) D) (ho : (D i).2.2.1.length < 6) (hT6 : T.length ≤ 600) : ks_P l G yX16_addInput mX16_addInput d [.ref 290, .int (nI i), .long q] S (fun z S' => z = none ∧ ∃ V', pbK LDw [110] S S' V V' ∧ buX S' V' 531 1600 110 [] ∧ rdS S' (i + 1) (va_up D i ((D i).1, (D i).2.1, (D i).2.2.1 ++ [(bytL (fun _ => 0) 0 32, (-1), T, q)], (D i).2.2.2))) := by
  have hi12 := hD.1
  obtain ⟨-, ver, loc, inp, out, ids, ix, seq, iln, val, oln, sc, so, U, A⟩ := hD
  have hA := A i (by omega)
  have hlen := (rdS_len (S := S) (t := i) (D := D) hA).1
  rw [hlen] at ho
  obtain ⟨⟨h374, h375, h376, h377⟩, ⟨h378, kid⟩, ⟨h379, h453, h454, h528⟩, ⟨h380, h455⟩, hsc, ksc, hso, kso, hix⟩ := id U
  obtain ⟨vT, g, eT, kg, hT, em⟩ := id hB
  obtain ⟨r9, er9⟩ : ∃ r, r = 6 * i + inp i := ⟨_, rfl⟩
  have hr9 : r9 < 72 := by omega
  refine ks_of (by decide) rfl rfl (Nat.le_of_ble_eq_true rfl) ?_
  show ks_X l G mX16_addInput d 0 [(0, .ref 290), (1, .int (nI i)), (2, .long q)] [] S _
  refine ks_bipush (x := nI 6) dX16_addInput_0 (by decide) rfl ?_
  refine ks_iload_n dX16_addInput_2 rfl rfl ?_
  refine ks_mulN dX16_addInput_3 rfl ?_
  refine ks_aload_n dX16_addInput_4 rfl rfl ?_
  refine ks_getf (T := TX16) (kf := 97) kx_2465 rfl in_X16 cl_X16 (by decide) hO rfl dX16_addInput_5 rfl ?_
  refine ks_iload_n dX16_addInput_8 rfl rfl ?_
  refine ks_ialdN (i := i) h376 rfl (by omega) (by decide) dX16_addInput_9 rfl ?_
  refine ks_addN dX16_addInput_10 rfl ?_
  rw [← er9]
  refine ks_istore dX16_addInput_11 (by decide) rfl ?_
  refine ks_sub [(4, _), (0, _), (1, _), (2, _)] rfl ?_
  refine ks_iconst (x := nI 0) dX16_addInput_13 (by decide) rfl ?_
  refine ks_istore dX16_addInput_14 (by decide) rfl ?_
  refine ks_sub [(5, _), (0, _), (1, _), (2, _), (4, _)] rfl ?_
  refine ks_sub [(0, _), (1, _), (2, _), (4, _), (5, .int (nI 0))] rfl (l_aiZ (ids := ids) hO kid hr9 (fun S1 u1 x1 => ?_) 36 0 S (by decide) (ks_up.rf _ _) (by rw [ks_pt_0]; exact h378))
  have n1 : ∀ {a : Nat}, a ≠ 378 → a ∉ [378] := fun h => by rw [List.mem_singleton]; exact h
  have o1 := u1.at hO (by decide)
  have q379 := u1.at h379 (by decide)
  refine ks_aload_n dX16_addInput_55 rfl rfl ?_
  refine ks_getf (T := TX16) (kf := 100) kx_2468 rfl in_X16 cl_X16 (by decide) o1 rfl dX16_addInput_56 rfl ?_
  refine ks_iload dX16_addInput_59 rfl rfl ?_
  refine ks_lload_n dX16_addInput_61 rfl rfl ?_
  refine ks_lastN (i := r9) q379 rfl (by omega) (by decide) dX16_addInput_62 rfl ?_
  refine ks_iconst (x := nI 0) dX16_addInput_63 (by decide) rfl ?_
  refine ks_istore dX16_addInput_64 (by decide) rfl ?_
  refine ks_sub [(5, _), (0, _), (1, _), (2, _), (4, _)] rfl ?_
  obtain ⟨S2, e2⟩ : ∃ S2, S2 = ks_set S1 379 (kJ 72 (va_up seq r9 q)) := ⟨_, rfl⟩
  refine ks_tS (S' := S2) e2.symm ?_
  have u2 : ks_up S1 S2 [379] := by rw [e2]; exact ks_up_set _ _ (List.mem_singleton.mpr rfl)
  have x2 : S2.2.2 379 = some (kJ 72 (va_up seq r9 q)) := by rw [e2]; exact ks_set_same _ _ _
  clear e2
  have n2 : ∀ {a : Nat}, a ≠ 379 → a ∉ [379] := fun h => by rw [List.mem_singleton]; exact h
  have t2 : ∀ {a : Nat} {e : ks_E}, S.2.2 a = some e → a ≠ 378 → a ≠ 379 → S2.2.2 a = some e := fun h1 h2 h3 => u2.at (u1.at h1 (n1 h2)) (n2 h3)
  refine ks_sub [(0, _), (1, _), (4, _), (5, _)] rfl (l_aiCp (gd := sc r9) (t2 hO (by decide) (by decide)) (t2 eT (by decide) (by decide)) kg (t2 (hsc r9 hr9) (by omega) (by omega)) (ksc _) (t2 h380 (by decide) (by decide)) hr9 hT6 vT (fun S3 u3 e3 k3 => ?_) T.length 0 S2 (Nat.zero_add _) (ks_up.rf _ _) (by rw [ks_pt_0]; exact t2 (hsc r9 hr9) (by omega) (by omega)))
  obtain ⟨g3, eg3⟩ : ∃ z, z = ks_pt (fun j => g j) (sc r9) 0 T.length := ⟨_, rfl⟩
  rw [← eg3] at e3 k3
  have eT3 : bytL g3 0 T.length = T := by
    rw [eg3, bytL_pt]
    exact em.symm
  have n3 : ∀ {a : Nat}, a ≠ 381 + r9 → a ∉ [381 + r9] := fun h => by rw [List.mem_singleton]; exact h
  have t3 : ∀ {a : Nat} {e : ks_E}, S.2.2 a = some e → a ≠ 378 → a ≠ 379 → a ≠ 381 + r9 → S3.2.2 a = some e := fun h1 h2 h3 h4 => u3.at (t2 h1 h2 h3) (n3 h4)
  have o3 := t3 hO (by decide) (by decide) (by omega)
  have q453 := t3 h453 (by decide) (by decide) (by omega)
  have q376 := t3 h376 (by decide) (by decide) (by omega)
  refine ks_aload_n dX16_addInput_98 rfl rfl ?_
  refine ks_getf (T := TX16) (kf := 102) kx_2470 rfl in_X16 cl_X16 (by decide) o3 rfl dX16_addInput_99 rfl ?_
  refine ks_iload dX16_addInput_102 rfl rfl ?_
  refine ks_aload_n dX16_addInput_104 rfl rfl ?_
  refine ks_getf (T := TX16) (kf := 110) kx_2478 rfl in_X16 cl_X16 (by decide) o3 rfl dX16_addInput_105 rfl ?_
  refine ks_tv vT ?_
  refine ks_iastNN (i := r9) (v := T.length) (by decide) q453 (by omega) (by decide) dX16_addInput_108 rfl ?_
  refine ks_aload_n dX16_addInput_109 rfl rfl ?_
  refine ks_iconst (x := nI 0) dX16_addInput_110 (by decide) rfl ?_
  refine ks_putf (T := TX16) (kf := 110) kx_2478 rfl in_X16 tyX16_ok nmX16 cl_X16 (by decide) ((ks_set_ne _ _ (by decide)).trans o3) (Nat.le_of_ble_eq_true rfl) rfl rfl rfl rfl dX16_addInput_111 rfl ?_
  refine md_put mdp_110 ?_
  refine ks_aload_n dX16_addInput_114 rfl rfl ?_
  refine ks_getf (T := TX16) (kf := 97) kx_2465 rfl in_X16 cl_X16 (by decide) (ks_set_same _ _ _) rfl dX16_addInput_115 rfl ?_
  refine ks_iload_n dX16_addInput_118 rfl rfl ?_
  refine ks_dup2_11 dX16_addInput_119 rfl rfl rfl ?_
  refine ks_ialdN (i := i) ((ks_set_ne _ _ (by decide)).trans ((ks_set_ne _ _ (by decide)).trans q376)) rfl (by omega) (by decide) dX16_addInput_120 rfl ?_
  refine ks_iconst (x := nI 1) dX16_addInput_121 (by decide) rfl ?_
  refine ks_addN dX16_addInput_122 rfl ?_
  refine ks_iastNN (i := i) (v := inp i + 1) (by decide) ((ks_set_ne _ _ (by decide)).trans ((ks_set_ne _ _ (by decide)).trans q376)) (by omega) (by decide) dX16_addInput_123 rfl ?_
  refine ks_ret rfl dX16_addInput_124 ?_
  have m9 : ∀ {a : Nat}, 374 ≤ a → a < 529 → a ∈ 290 :: LDw := fun h1 h2 => List.mem_cons_of_mem _ (mem_LDw.mpr ⟨h1, h2⟩)
  have ua : ks_up S S3 (290 :: LDw) := (u1.mono (fun a ha => by rw [List.mem_singleton] at ha; rw [ha]; exact m9 (by decide) (by decide))).trans ((u2.mono (fun a ha => by rw [List.mem_singleton] at ha; rw [ha]; exact m9 (by decide) (by decide))).trans (u3.mono (fun a ha => by rw [List.mem_singleton] at ha; rw [ha]; exact m9 (by omega) (by omega))))
  have f1 : (ks_set (ks_set (ks_set S3 453 (kN 72 (va_up iln r9 T.length))) 290 (rfE (va_up V 110 (.int (nI 0))))) 376 (kN 12 (va_up inp i (inp i + 1)))).2.2 290 = some (rfE (va_up V 110 (.int (nI 0)))) := (ks_set_ne _ _ (by decide)).trans (ks_set_same _ _ _)
  have s9 : ∀ {a : Nat} {e : ks_E}, S3.2.2 a = some e → a ≠ 290 → a ≠ 376 → a ≠ 453 → (ks_set (ks_set (ks_set S3 453 (kN 72 (va_up iln r9 T.length))) 290 (rfE (va_up V 110 (.int (nI 0))))) 376 (kN 12 (va_up inp i (inp i + 1)))).2.2 a = some e := fun {a e} h1 h2 h3 h4 => by
    rw [ks_set_ne _ _ h3, ks_set_ne _ _ h2, ks_set_ne _ _ h4]
    exact h1
  have z9 : ∀ {a : Nat} {e : ks_E}, S.2.2 a = some e → a ≠ 378 → a ≠ 379 → a ≠ 381 + r9 → a ≠ 290 → a ≠ 376 → a ≠ 453 → (ks_set (ks_set (ks_set S3 453 (kN 72 (va_up iln r9 T.length))) 290 (rfE (va_up V 110 (.int (nI 0))))) 376 (kN 12 (va_up inp i (inp i + 1)))).2.2 a = some e := fun {a e} h1 h2 h3 h4 h5 h6 h7 => s9 (t3 h1 h2 h3 h4) h5 h6 h7
  refine ⟨rfl, va_up V 110 (.int (nI 0)), ⟨((ua.trans (ks_up_set _ _ (m9 (by decide) (by decide)))).trans (ks_up_set _ _ List.mem_cons_self)).trans (ks_up_set _ _ (m9 (by decide) (by decide))), f1, fun z hz => va_up_ne _ _ (fun h => hz (by rw [h]; exact List.mem_singleton.mpr rfl))⟩, ⟨va_up_self _ _ _, g, z9 eT (by decide) (by decide) (by omega) (by decide) (by decide) (by decide), kg, Nat.zero_le _, rfl⟩, hi12, ver, loc, va_up inp i (inp i + 1), out, ks_pt aiD ids (36 * r9) 36, va_up ix r9 (-1), va_up seq r9 q, va_up iln r9 T.length, val, oln, va_up sc r9 g3, so, ?_, fun j hj => ?_⟩
  · refine ⟨⟨z9 h374 (by decide) (by decide) (by omega) (by decide) (by decide) (by decide), z9 h375 (by decide) (by decide) (by omega) (by decide) (by decide) (by decide), ks_set_same _ _ _, z9 h377 (by decide) (by decide) (by omega) (by decide) (by decide) (by decide)⟩, ⟨s9 (u3.at (u2.at x1 (n2 (by decide))) (n3 (by omega))) (by decide) (by decide) (by decide), kO_pt kO_aiD kid _ _⟩, ⟨s9 (u3.at x2 (n3 (by omega))) (by decide) (by decide) (by decide), (ks_set_ne _ _ (by decide)).trans ((ks_set_ne _ _ (by decide)).trans (ks_set_same _ _ _)), z9 h454 (by decide) (by decide) (by omega) (by decide) (by decide) (by decide), z9 h528 (by decide) (by decide) (by omega) (by decide) (by decide) (by decide)⟩, ⟨z9 h380 (by decide) (by decide) (by omega) (by decide) (by decide) (by decide), z9 h455 (by decide) (by decide) (by omega) (by decide) (by decide) (by decide)⟩, fun r hr => ?_, fun r => ?_, fun r hr => z9 (hso r hr) (by omega) (by omega) (by omega) (by omega) (by omega) (by omega), kso, fun r hr => ?_⟩
    · by_cases h : r = r9
      · rw [h, va_up_self]
        exact s9 e3 (by omega) (by omega) (by omega)
      · rw [va_up_ne _ _ h]
        exact z9 (hsc r hr) (by omega) (by omega) (by omega) (by omega) (by omega) (by omega)
    · by_cases h : r = r9
      · rw [h, va_up_self]
        exact k3
      · rw [va_up_ne _ _ h]
        exact ksc r
    · by_cases h : r = r9
      · rw [h, va_up_self]
        exact (aiD_b ids r9).2
      · rw [va_up_ne _ _ h, ← hix r hr]
        exact bytL_congr (fun k hk => if_neg (by omega))
  · by_cases h : j = i
    · subst h
      obtain ⟨eD, h6, o6, hi6, ho6⟩ := hA
      rw [va_up_self]
      refine ⟨?_, by rw [va_up_self]; omega, o6, fun z hz => ?_, ho6⟩
      · rw [va_up_self, List.range_succ, List.map_append, eD]
        refine rd_pair ?_ rfl
        refine congr (congrArg _ (List.map_congr_left (fun z hz => ?_))) ?_
        · have hz := List.mem_range.mp hz
          unfold rdI
          rw [va_up_ne _ _ (by omega), va_up_ne _ _ (by omega), va_up_ne _ _ (by omega), va_up_ne _ _ (by omega), show bytL (ks_pt aiD ids (36 * r9) 36) (36 * (6 * j + z)) 32 = bytL ids (36 * (6 * j + z)) 32 from bytL_congr (fun k hk => if_neg (by omega))]
        · show [(bytL (fun _ => 0) 0 32, (-1), T, q)] = [rdI (ks_pt aiD ids (36 * r9) 36) (va_up ix r9 (-1)) (va_up sc r9 g3) (va_up iln r9 T.length) (va_up seq r9 q) (6 * j + inp j)]
          rw [← er9]
          unfold rdI
          rw [va_up_self, va_up_self, va_up_self, va_up_self, eT3, (aiD_b ids r9).1]
      · rw [va_up_self] at hz
        by_cases h : z = inp j
        · rw [h, ← er9, va_up_self]
          exact hT6
        · rw [va_up_ne _ _ (by omega)]
          exact hi6 z (by omega)
    · rw [va_up_ne _ _ h]
      exact rdA_cg (A j hj) rfl rfl (va_up_ne _ _ h) rfl (fun r h1 h2 => ⟨fun k hk => if_neg (by omega), va_up_ne _ _ (by omega), va_up_ne _ _ (by omega), va_up_ne _ _ (by omega), rfl, rfl, va_up_ne _ _ (by omega), rfl⟩)
