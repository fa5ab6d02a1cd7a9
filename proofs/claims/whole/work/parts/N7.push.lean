/-! THE REFERENCE: pushes -/
theorem bytL_u1 {g : Nat → Nat} {q v : Nat} : bytL (va_up g q v) 0 (q + 1) = bytL g 0 q ++ [v] := by
  rw [bytL_s, Nat.zero_add, va_up_self]
  refine congrArg (fun z => z ++ [v]) (bytL_congr (fun j hj => va_up_ne _ _ (by omega)))
theorem rdI_push {k b j n : Nat} {ids gs iln : Nat → Nat} {ix : Nat → Int32} {seq : Nat → Int64} {sc : Nat → Nat → Nat} {p : List Nat} (hgs : bytL gs 0 n = bytL (sc (b + j)) 0 (iln (b + j)) ++ p) : (List.range k).map (fun q => rdI ids ix (va_up sc (b + j) gs) (va_up iln (b + j) n) seq (b + q)) = dPush ((List.range k).map (fun q => rdI ids ix sc iln seq (b + q))) j p := by
  apply List.ext_getElem?
  intro q
  rw [dPush_at]
  by_cases h : q < k
  · rw [List.getElem?_map, List.getElem?_map, List.getElem?_range h]
    by_cases e : q = j
    · subst e
      rw [if_pos rfl]
      simp only [Option.map_some, rdI, va_up_self, hgs]
    · rw [if_neg e]
      simp only [Option.map_some, rdI, va_up_ne _ _ (show b + q ≠ b + j by omega)]
  · have e1 : (List.range k)[q]? = none := by simp; omega
    rw [List.getElem?_map, List.getElem?_map, e1]
    split <;> rfl
theorem rdI_get {k b j : Nat} {ids iln : Nat → Nat} {ix : Nat → Int32} {seq : Nat → Int64} {sc : Nat → Nat → Nat} {x : dIn} (h : ((List.range k).map (fun q => rdI ids ix sc iln seq (b + q)))[j]? = some x) : j < k ∧ x = rdI ids ix sc iln seq (b + j) := by
  by_cases hj : j < k
  · rw [List.getElem?_map, List.getElem?_range hj] at h
    exact ⟨hj, (Option.some.inj h).symm⟩
  · have e1 : (List.range k)[j]? = none := by simp; omega
    rw [List.getElem?_map, e1] at h
    cases h
set_option maxRecDepth 100000 in
set_option maxHeartbeats 800000 in
theorem c_md_hasInput1 {l : Launch} {G : ks_G} {d : Nat} {S : ks_S} {V : Nat → Value} {inp : Nat → Nat} (hO : S.2.2 290 = some (rfE V)) {i j : Nat} (v94 : V 94 = .int (nI (i + 1))) (hi : i < 12) (h376 : S.2.2 376 = some (kN 12 inp)) (h6 : inp i ≤ 6) (hj : j < inp i) : ks_P l G yX16_hasInput mX16_hasInput d [.ref 290, .int (nI j)] S (fun z S' => z = some (.int (nI 1)) ∧ S' = S) := by
  refine ks_of (by decide) rfl rfl (Nat.le_of_ble_eq_true rfl) ?_
  show ks_X l G mX16_hasInput d 0 [(0, .ref 290), (1, .int (nI j))] [] S _
  refine ks_iload_n dX16_hasInput_0 rfl rfl ?_
  refine ks_if_ltN (tgt := 23) (by omega) dX16_hasInput_1 (by decide) rfl ?_
  refine ks_iload_n dX16_hasInput_4 rfl rfl ?_
  refine ks_aload_n dX16_hasInput_5 rfl rfl ?_
  refine ks_getf (T := TX16) (kf := 97) kx_2465 rfl in_X16 cl_X16 (by decide) hO rfl dX16_hasInput_6 rfl ?_
  refine ks_aload_n dX16_hasInput_9 rfl rfl ?_
  refine ks_getf (T := TX16) (kf := 94) kx_2462 rfl in_X16 cl_X16 (by decide) hO rfl dX16_hasInput_10 rfl ?_
  refine ks_tv v94 ?_
  refine ks_iconst (x := nI 1) dX16_hasInput_13 (by decide) rfl ?_
  refine ks_subN (by omega) dX16_hasInput_14 rfl ?_
  refine ks_ti (y := nI (i)) rfl ?_
  refine ks_ialdN (i := i) h376 rfl (by omega) (by decide) dX16_hasInput_15 rfl ?_
  refine ks_icmp_geN (tgt := 23) (by omega) (by omega) dX16_hasInput_16 (by decide) rfl (fun hc16 => ?_) (fun hc16 => ?_)
  · refine ks_iconst (x := nI 0) dX16_hasInput_23 (by decide) rfl ?_
    refine ks_zret rfl rfl dX16_hasInput_24 ?_
    omega
  · refine ks_iconst (x := nI 1) dX16_hasInput_19 (by decide) rfl ?_
    refine ks_goto (tgt := 24) dX16_hasInput_20 (by decide) ?_
    refine ks_zret rfl rfl dX16_hasInput_24 ?_
    exact ⟨rfl, rfl⟩
set_option maxRecDepth 100000 in
set_option maxHeartbeats 800000 in
theorem c_md_hasInput0 {l : Launch} {G : ks_G} {d : Nat} {S : ks_S} {V : Nat → Value} {inp : Nat → Nat} (hO : S.2.2 290 = some (rfE V)) {i : Nat} {x : Int32} (v94 : V 94 = .int (nI (i + 1))) (hi : i < 12) (h376 : S.2.2 376 = some (kN 12 inp)) (h6 : inp i ≤ 6) (hx : ¬ (¬ x < 0 ∧ ¬ nI (inp i) ≤ x)) : ks_P l G yX16_hasInput mX16_hasInput d [.ref 290, .int x] S (fun z S' => z = some (.int (nI 0)) ∧ S' = S) := by
  refine ks_of (by decide) rfl rfl (Nat.le_of_ble_eq_true rfl) ?_
  show ks_X l G mX16_hasInput d 0 [(0, .ref 290), (1, .int x)] [] S _
  refine ks_iload_n dX16_hasInput_0 rfl rfl ?_
  refine ks_if_lt (tgt := 23) dX16_hasInput_1 (by decide) rfl (fun hc1 => ?_) (fun hc1 => ?_)
  · refine ks_iconst (x := nI 0) dX16_hasInput_23 (by decide) rfl ?_
    refine ks_zret rfl rfl dX16_hasInput_24 ?_
    exact ⟨rfl, rfl⟩
  · refine ks_iload_n dX16_hasInput_4 rfl rfl ?_
    refine ks_aload_n dX16_hasInput_5 rfl rfl ?_
    refine ks_getf (T := TX16) (kf := 97) kx_2465 rfl in_X16 cl_X16 (by decide) hO rfl dX16_hasInput_6 rfl ?_
    refine ks_aload_n dX16_hasInput_9 rfl rfl ?_
    refine ks_getf (T := TX16) (kf := 94) kx_2462 rfl in_X16 cl_X16 (by decide) hO rfl dX16_hasInput_10 rfl ?_
    refine ks_tv v94 ?_
    refine ks_iconst (x := nI 1) dX16_hasInput_13 (by decide) rfl ?_
    refine ks_subN (by omega) dX16_hasInput_14 rfl ?_
    refine ks_ti (y := nI (i)) rfl ?_
    refine ks_ialdN (i := i) h376 rfl (by omega) (by decide) dX16_hasInput_15 rfl ?_
    refine ks_icmp_ge (tgt := 23) dX16_hasInput_16 (by decide) rfl (fun hc16 => ?_) (fun hc16 => ?_)
    · refine ks_iconst (x := nI 0) dX16_hasInput_23 (by decide) rfl ?_
      refine ks_zret rfl rfl dX16_hasInput_24 ?_
      exact ⟨rfl, rfl⟩
    · refine ks_iconst (x := nI 1) dX16_hasInput_19 (by decide) rfl ?_
      refine ks_goto (tgt := 24) dX16_hasInput_20 (by decide) ?_
      refine ks_zret rfl rfl dX16_hasInput_24 ?_
      exact absurd ⟨hc1, hc16⟩ hx
set_option maxRecDepth 100000 in
set_option maxHeartbeats 800000 in
theorem l_ptCp {l : Launch} {G : ks_G} {d : Nat} {S : ks_S} {V : Nat → Value} {P : Option Value → ks_S → Prop} {gd gs : Nat → Nat} {r9 y N L q : Nat} (hO : S.2.2 290 = some (rfE V)) (hs9 : S.2.2 y = some (kB N gs)) (kgs : kO gs) (hd9 : S.2.2 (381 + r9) = some (kB 600 gd)) (kgd : kO gd) (hq : q + L ≤ 600) (hL : L ≤ N) (hN : N < 2 ^ 28) (hyr : y ≠ 381 + r9) (hk : ∀ S1 : ks_S, ks_up S S1 [(381 + r9)] → S1.2.2 (381 + r9) = some (kB 600 (ks_pt (fun j => gs (j)) gd q L)) → kO (ks_pt (fun j => gs (j)) gd q L) → ks_X l G mX16_pushTo d 102 [(0, .ref 290), (1, .int (nI r9)), (2, .ref y), (3, .int (nI L)), (4, .ref (381 + r9)), (5, .int (nI q))] [] S1 P) : ∀ (u i : Nat) (S1 : ks_S), i + u = L → ks_up S S1 [(381 + r9)] → S1.2.2 (381 + r9) = some (kB 600 (ks_pt (fun j => gs (j)) gd q i)) → ks_X l G mX16_pushTo d 78 [(0, .ref 290), (1, .int (nI r9)), (2, .ref y), (3, .int (nI L)), (4, .ref (381 + r9)), (5, .int (nI q)), (6, .int (nI i))] [] S1 P := by
  have kD : kO (fun j => gs (j)) := fun j => kgs _
  intro u
  induction u with
  | zero =>
    intro i S1 hi hu e1
    have o1 := hu.at hO (by simp only [List.mem_cons, List.not_mem_nil, or_false]; exact (by omega))
    have s1 := hu.at hs9 (by simp only [List.mem_cons, List.not_mem_nil, or_false]; exact (by omega))
    obtain rfl : i = L := hi
    refine ks_iload dX16_pushTo_78 rfl rfl ?_
    refine ks_iload_n dX16_pushTo_80 rfl rfl ?_
    refine ks_icmp_geN (tgt := 102) (by omega) (by omega) dX16_pushTo_81 (by decide) rfl (fun h1 => ?_) (fun h1 => absurd h1 (by omega))
    refine ks_sub [(0, _), (1, _), (2, _), (3, _), (4, _), (5, _)] rfl ?_
    exact hk S1 hu e1 (kO_pt kD kgd _ _)
  | succ u ih =>
    intro i S1 hi hu e1
    have o1 := hu.at hO (by simp only [List.mem_cons, List.not_mem_nil, or_false]; exact (by omega))
    have s1 := hu.at hs9 (by simp only [List.mem_cons, List.not_mem_nil, or_false]; exact (by omega))
    refine ks_iload dX16_pushTo_78 rfl rfl ?_
    refine ks_iload_n dX16_pushTo_80 rfl rfl ?_
    refine ks_icmp_geN (tgt := 102) (by omega) (by omega) dX16_pushTo_81 (by decide) rfl (fun h1 => absurd h1 (by omega)) (fun h1 => ?_)
    refine ks_aload dX16_pushTo_84 rfl rfl ?_
    refine ks_iload dX16_pushTo_86 rfl rfl ?_
    refine ks_iload dX16_pushTo_88 rfl rfl ?_
    refine ks_addN dX16_pushTo_90 rfl ?_
    refine ks_aload_n dX16_pushTo_91 rfl rfl ?_
    refine ks_iload dX16_pushTo_92 rfl rfl ?_
    refine ks_baldB (i := i) s1 rfl (by omega) (by omega) dX16_pushTo_94 rfl ?_
    refine ks_bastB (i := q + i) (c := gs i) e1 rfl (by omega) (by decide) (ks_by_b (kgs _)) dX16_pushTo_95 rfl ?_
    refine ks_incN (c := 1) (e := i + 1) dX16_pushTo_96 rfl (by decide) rfl (by decide) rfl ?_
    refine ks_sub [(6, _), (0, _), (1, _), (2, _), (3, _), (4, _), (5, _)] rfl ?_
    refine ks_goto (tgt := 78) dX16_pushTo_99 (by decide) ?_
    refine ks_sub [(0, _), (1, _), (2, _), (3, _), (4, _), (5, _), (6, _)] rfl (ih (i + 1) _ (by omega) (hu.trans (ks_up_set _ _ (List.mem_singleton.mpr rfl))) ?_)
    rw [ks_set_same, ← ks_pt_s]
set_option maxRecDepth 100000 in
set_option maxHeartbeats 1600000 in
theorem c_md_pushTo {l : Launch} {G : ks_G} {d : Nat} {S : ks_S} {V : Nat → Value} {r9 y N L : Nat} {gs g iln : Nat → Nat} (hO : S.2.2 290 = some (rfE V)) (h380 : S.2.2 380 = some (kA 4 72 rdG)) (h453 : S.2.2 453 = some (kN 72 iln)) (hr9 : r9 < 72) (hs : S.2.2 (381 + r9) = some (kB 600 gs)) (kgs : kO gs) (hy : S.2.2 y = some (kB N g)) (kg : kO g) (hL : L ≤ N) (hN : N < 2 ^ 28) (hfit : iln r9 + psz L ≤ 600) (hyr : y < 381 ∨ 453 < y) : ks_P l G yX16_pushTo mX16_pushTo d [.ref 290, .int (nI r9), .ref y, .int (nI L)] S (fun z S' => z = none ∧ ∃ gs', ks_up S S' [381 + r9, 453] ∧ S'.2.2 (381 + r9) = some (kB 600 gs') ∧ kO gs' ∧ S'.2.2 453 = some (kN 72 (va_up iln r9 (iln r9 + psz L))) ∧ bytL gs' 0 (iln r9 + psz L) = bytL gs 0 (iln r9) ++ pushL (bytL g 0 L)) := by
  have hps : L + 1 ≤ psz L := by unfold psz; (repeat' split) <;> omega
  have yO : y ≠ 290 := ks_ne hy hO (fun h => by cases h)
  refine ks_of (by decide) rfl rfl (Nat.le_of_ble_eq_true rfl) ?_
  show ks_X l G mX16_pushTo d 0 [(0, .ref 290), (1, .int (nI r9)), (2, .ref y), (3, .int (nI L))] [] S _
  refine ks_aload_n dX16_pushTo_0 rfl rfl ?_
  refine ks_getf (T := TX16) (kf := 101) kx_2469 rfl in_X16 cl_X16 (by decide) hO rfl dX16_pushTo_1 rfl ?_
  refine ks_iload_n dX16_pushTo_4 rfl rfl ?_
  refine ks_aaldN (i := r9) (b := (381 + r9)) (by decide) h380 rfl (by omega) (by decide) (if_pos (by omega)) dX16_pushTo_5 rfl ?_
  refine ks_astore dX16_pushTo_6 (by decide) rfl ?_
  refine ks_sub [(4, _), (0, _), (1, _), (2, _), (3, _)] rfl ?_
  refine ks_aload_n dX16_pushTo_8 rfl rfl ?_
  refine ks_getf (T := TX16) (kf := 102) kx_2470 rfl in_X16 cl_X16 (by decide) hO rfl dX16_pushTo_9 rfl ?_
  refine ks_iload_n dX16_pushTo_12 rfl rfl ?_
  refine ks_ialdN (i := r9) h453 rfl (by omega) (by decide) dX16_pushTo_13 rfl ?_
  refine ks_istore dX16_pushTo_14 (by decide) rfl ?_
  refine ks_sub [(5, _), (0, _), (1, _), (2, _), (3, _), (4, _)] rfl ?_
  refine ks_iload_n dX16_pushTo_16 rfl rfl ?_
  refine ks_bipush (x := nI 75) dX16_pushTo_17 (by decide) rfl ?_
  refine ks_icmp_leN (tgt := 45) (by omega) (by decide) dX16_pushTo_19 (by decide) rfl (fun h1 => ?_) (fun h1 => ?_)
  · refine ks_aload dX16_pushTo_45 rfl rfl ?_
    refine ks_iload dX16_pushTo_47 rfl rfl ?_
    refine ks_iload_n dX16_pushTo_49 rfl rfl ?_
    refine ks_i2b dX16_pushTo_50 rfl ?_
    refine ks_bastB (i := iln r9) (c := L % 256) hs rfl (by omega) (by decide) ((ks_by_i8 _).trans (ks_by_nI _)) dX16_pushTo_51 rfl ?_
    refine ks_incN (c := 1) (e := iln r9 + 1) dX16_pushTo_52 rfl (by decide) rfl (by decide) rfl ?_
    refine ks_sub [(5, _), (0, _), (1, _), (2, _), (3, _), (4, _)] rfl ?_
    refine ks_iload_n dX16_pushTo_55 rfl rfl ?_
    refine ks_sipush (x := nI 255) dX16_pushTo_56 (by decide) rfl ?_
    refine ks_icmp_leN (tgt := 75) (by omega) (by decide) dX16_pushTo_59 (by decide) rfl (fun h2 => ?_) (fun h2 => absurd h2 (by omega))
    refine ks_iconst (x := nI 0) dX16_pushTo_75 (by decide) rfl ?_
    refine ks_istore dX16_pushTo_76 (by decide) rfl ?_
    refine ks_sub [(6, _), (0, _), (1, _), (2, _), (3, _), (4, _), (5, _)] rfl ?_
    refine ks_nm (fun S1 e1 => ?_)
    have u1 : ks_up S S1 [381 + r9] := by rw [e1]; exact ks_up_set _ _ (List.mem_singleton.mpr rfl)
    have x1 : S1.2.2 (381 + r9) = some (kB 600 (va_up gs (iln r9) (L % 256))) := by rw [e1]; exact ks_set_same _ _ _
    clear e1
    have n1 : ∀ {a : Nat}, a ≠ 381 + r9 → a ∉ [381 + r9] := fun h => by rw [List.mem_singleton]; exact h
    have k1 : kO (va_up gs (iln r9) (L % 256)) := kO_up kgs (Nat.mod_lt _ (by decide))
    have hp : psz L = L + 1 := by unfold psz; (repeat' split) <;> omega
    have hH : pushH L = [L] := by unfold pushH; rw [if_pos (by omega)]
    have hG : bytL (va_up gs (iln r9) (L % 256)) 0 (iln r9 + 1) = bytL gs 0 (iln r9) ++ pushH L := by
      rw [hH]
      exact bytL_u1.trans (by rw [Nat.mod_eq_of_lt (show L < 256 by omega)])
    refine ks_sub [(0, _), (1, _), (2, _), (3, _), (4, _), (5, .int (nI (iln r9 + 1))), (6, _)] rfl (l_ptCp (gd := (va_up gs (iln r9) (L % 256))) (u1.at hO (n1 (by omega))) (u1.at hy (n1 (by omega))) kg x1 k1 (by omega) hL hN (by omega) (fun S2 u2 e2 k2 => ?_) L 0 S1 (Nat.zero_add _) (ks_up.rf _ _) (by rw [ks_pt_0]; exact x1))
    have q453 := u2.at (u1.at h453 (n1 (by omega))) (n1 (by omega))
    have o2 := u2.at (u1.at hO (n1 (by omega))) (n1 (by omega))
    refine ks_aload_n dX16_pushTo_102 rfl rfl ?_
    refine ks_getf (T := TX16) (kf := 102) kx_2470 rfl in_X16 cl_X16 (by decide) o2 rfl dX16_pushTo_103 rfl ?_
    refine ks_iload_n dX16_pushTo_106 rfl rfl ?_
    refine ks_iload dX16_pushTo_107 rfl rfl ?_
    refine ks_iload_n dX16_pushTo_109 rfl rfl ?_
    refine ks_addN dX16_pushTo_110 rfl ?_
    refine ks_iastNN (i := r9) (v := iln r9 + 1 + L) (by decide) q453 (by omega) (by decide) dX16_pushTo_111 rfl ?_
    refine ks_ret rfl dX16_pushTo_112 ?_
    have u9 : ks_up S S2 [381 + r9, 453] := (u1.mono (fun a h => by rw [List.mem_singleton] at h; rw [h]; exact List.mem_cons_self)).trans (u2.mono (fun a h => by rw [List.mem_singleton] at h; rw [h]; exact List.mem_cons_self))
    have eL : iln r9 + psz L = iln r9 + 1 + L := by omega
    refine ⟨rfl, _, u9.trans (ks_up_set _ _ (by simp)), (ks_set_ne _ _ (by omega)).trans e2, k2, ?_, ?_⟩
    · rw [eL]
      exact ks_set_same _ _ _
    · rw [eL, bytL_pt2, hG, List.append_assoc]
      unfold pushL
      rw [bytL_len]
  · refine ks_aload dX16_pushTo_22 rfl rfl ?_
    refine ks_iload dX16_pushTo_24 rfl rfl ?_
    refine ks_iload_n dX16_pushTo_26 rfl rfl ?_
    refine ks_sipush (x := nI 256) dX16_pushTo_27 (by decide) rfl ?_
    refine ks_icmp_geN (tgt := 38) (by omega) (by decide) dX16_pushTo_30 (by decide) rfl (fun h3 => ?_) (fun h3 => ?_)
    · refine ks_bipush (x := nI 77) dX16_pushTo_38 (by decide) rfl ?_
      refine ks_i2b dX16_pushTo_40 rfl ?_
      refine ks_bastB (i := iln r9) (c := 77) hs rfl (by omega) (by decide) ((ks_by_i8 _).trans (ks_by_nI _)) dX16_pushTo_41 rfl ?_
      refine ks_incN (c := 1) (e := iln r9 + 1) dX16_pushTo_42 rfl (by decide) rfl (by decide) rfl ?_
      refine ks_sub [(5, _), (0, _), (1, _), (2, _), (3, _), (4, _)] rfl ?_
      refine ks_aload dX16_pushTo_45 rfl rfl ?_
      refine ks_iload dX16_pushTo_47 rfl rfl ?_
      refine ks_iload_n dX16_pushTo_49 rfl rfl ?_
      refine ks_i2b dX16_pushTo_50 rfl ?_
      refine ks_bastB (i := iln r9 + 1) (c := L % 256) (ks_set_same _ _ _) rfl (by omega) (by decide) ((ks_by_i8 _).trans (ks_by_nI _)) dX16_pushTo_51 rfl ?_
      refine ks_incN (c := 1) (e := iln r9 + 1 + 1) dX16_pushTo_52 rfl (by decide) rfl (by decide) rfl ?_
      refine ks_sub [(5, _), (0, _), (1, _), (2, _), (3, _), (4, _)] rfl ?_
      refine ks_iload_n dX16_pushTo_55 rfl rfl ?_
      refine ks_sipush (x := nI 255) dX16_pushTo_56 (by decide) rfl ?_
      refine ks_icmp_leN (tgt := 75) (by omega) (by decide) dX16_pushTo_59 (by decide) rfl (fun h2 => absurd h2 (by omega)) (fun h2 => ?_)
      refine ks_aload dX16_pushTo_62 rfl rfl ?_
      refine ks_iload dX16_pushTo_64 rfl rfl ?_
      refine ks_iload_n dX16_pushTo_66 rfl rfl ?_
      refine ks_bipush (x := nI 8) dX16_pushTo_67 (by decide) rfl ?_
      refine ks_shrN (k := 8) (by decide) (by omega) dX16_pushTo_69 rfl ?_
      refine ks_i2b dX16_pushTo_70 rfl ?_
      refine ks_bastB (i := iln r9 + 1 + 1) (c := (L / 2 ^ 8) % 256) (ks_set_same _ _ _) rfl (by omega) (by decide) ((ks_by_i8 _).trans (ks_by_nI _)) dX16_pushTo_71 rfl ?_
      refine ks_incN (c := 1) (e := iln r9 + 1 + 1 + 1) dX16_pushTo_72 rfl (by decide) rfl (by decide) rfl ?_
      refine ks_sub [(5, _), (0, _), (1, _), (2, _), (3, _), (4, _)] rfl ?_
      refine ks_iconst (x := nI 0) dX16_pushTo_75 (by decide) rfl ?_
      refine ks_istore dX16_pushTo_76 (by decide) rfl ?_
      refine ks_sub [(6, _), (0, _), (1, _), (2, _), (3, _), (4, _), (5, _)] rfl ?_
      refine ks_nm (fun S1 e1 => ?_)
      have u1 : ks_up S S1 [381 + r9] := by rw [e1]; exact ks_upL (ks_upL (ks_up_set _ _ (List.mem_singleton.mpr rfl)) (List.mem_singleton.mpr rfl)) (List.mem_singleton.mpr rfl)
      have x1 : S1.2.2 (381 + r9) = some (kB 600 (va_up (va_up (va_up gs (iln r9) 77) (iln r9 + 1) (L % 256)) (iln r9 + 1 + 1) ((L / 2 ^ 8) % 256))) := by rw [e1]; exact ks_set_same _ _ _
      clear e1
      have n1 : ∀ {a : Nat}, a ≠ 381 + r9 → a ∉ [381 + r9] := fun h => by rw [List.mem_singleton]; exact h
      have k1 : kO (va_up (va_up (va_up gs (iln r9) 77) (iln r9 + 1) (L % 256)) (iln r9 + 1 + 1) ((L / 2 ^ 8) % 256)) := kO_up (kO_up (kO_up kgs (by decide)) (Nat.mod_lt _ (by decide))) (Nat.mod_lt _ (by decide))
      have hp : psz L = L + 3 := by unfold psz; (repeat' split) <;> omega
      have hH : pushH L = [77, L % 256, L / 256 % 256] := by unfold pushH; rw [if_neg (by omega), if_neg (by omega)]
      have hG : bytL (va_up (va_up (va_up gs (iln r9) 77) (iln r9 + 1) (L % 256)) (iln r9 + 1 + 1) ((L / 2 ^ 8) % 256)) 0 (iln r9 + 3) = bytL gs 0 (iln r9) ++ pushH L := by
        rw [hH]
        exact (bytL_u1 (q := iln r9 + 2)).trans (by rw [show iln r9 + 2 = iln r9 + 1 + 1 from rfl, bytL_u1, bytL_u1, List.append_assoc, List.append_assoc]; rfl)
      refine ks_sub [(0, _), (1, _), (2, _), (3, _), (4, _), (5, .int (nI (iln r9 + 3))), (6, _)] rfl (l_ptCp (gd := (va_up (va_up (va_up gs (iln r9) 77) (iln r9 + 1) (L % 256)) (iln r9 + 1 + 1) ((L / 2 ^ 8) % 256))) (u1.at hO (n1 (by omega))) (u1.at hy (n1 (by omega))) kg x1 k1 (by omega) hL hN (by omega) (fun S2 u2 e2 k2 => ?_) L 0 S1 (Nat.zero_add _) (ks_up.rf _ _) (by rw [ks_pt_0]; exact x1))
      have q453 := u2.at (u1.at h453 (n1 (by omega))) (n1 (by omega))
      have o2 := u2.at (u1.at hO (n1 (by omega))) (n1 (by omega))
      refine ks_aload_n dX16_pushTo_102 rfl rfl ?_
      refine ks_getf (T := TX16) (kf := 102) kx_2470 rfl in_X16 cl_X16 (by decide) o2 rfl dX16_pushTo_103 rfl ?_
      refine ks_iload_n dX16_pushTo_106 rfl rfl ?_
      refine ks_iload dX16_pushTo_107 rfl rfl ?_
      refine ks_iload_n dX16_pushTo_109 rfl rfl ?_
      refine ks_addN dX16_pushTo_110 rfl ?_
      refine ks_iastNN (i := r9) (v := iln r9 + 3 + L) (by decide) q453 (by omega) (by decide) dX16_pushTo_111 rfl ?_
      refine ks_ret rfl dX16_pushTo_112 ?_
      have u9 : ks_up S S2 [381 + r9, 453] := (u1.mono (fun a h => by rw [List.mem_singleton] at h; rw [h]; exact List.mem_cons_self)).trans (u2.mono (fun a h => by rw [List.mem_singleton] at h; rw [h]; exact List.mem_cons_self))
      have eL : iln r9 + psz L = iln r9 + 3 + L := by omega
      refine ⟨rfl, _, u9.trans (ks_up_set _ _ (by simp)), (ks_set_ne _ _ (by omega)).trans e2, k2, ?_, ?_⟩
      · rw [eL]
        exact ks_set_same _ _ _
      · rw [eL, bytL_pt2, hG, List.append_assoc]
        unfold pushL
        rw [bytL_len]
    · refine ks_bipush (x := nI 76) dX16_pushTo_33 (by decide) rfl ?_
      refine ks_goto (tgt := 40) dX16_pushTo_35 (by decide) ?_
      refine ks_i2b dX16_pushTo_40 rfl ?_
      refine ks_bastB (i := iln r9) (c := 76) hs rfl (by omega) (by decide) ((ks_by_i8 _).trans (ks_by_nI _)) dX16_pushTo_41 rfl ?_
      refine ks_incN (c := 1) (e := iln r9 + 1) dX16_pushTo_42 rfl (by decide) rfl (by decide) rfl ?_
      refine ks_sub [(5, _), (0, _), (1, _), (2, _), (3, _), (4, _)] rfl ?_
      refine ks_aload dX16_pushTo_45 rfl rfl ?_
      refine ks_iload dX16_pushTo_47 rfl rfl ?_
      refine ks_iload_n dX16_pushTo_49 rfl rfl ?_
      refine ks_i2b dX16_pushTo_50 rfl ?_
      refine ks_bastB (i := iln r9 + 1) (c := L % 256) (ks_set_same _ _ _) rfl (by omega) (by decide) ((ks_by_i8 _).trans (ks_by_nI _)) dX16_pushTo_51 rfl ?_
      refine ks_incN (c := 1) (e := iln r9 + 1 + 1) dX16_pushTo_52 rfl (by decide) rfl (by decide) rfl ?_
      refine ks_sub [(5, _), (0, _), (1, _), (2, _), (3, _), (4, _)] rfl ?_
      refine ks_iload_n dX16_pushTo_55 rfl rfl ?_
      refine ks_sipush (x := nI 255) dX16_pushTo_56 (by decide) rfl ?_
      refine ks_icmp_leN (tgt := 75) (by omega) (by decide) dX16_pushTo_59 (by decide) rfl (fun h2 => ?_) (fun h2 => absurd h2 (by omega))
      refine ks_iconst (x := nI 0) dX16_pushTo_75 (by decide) rfl ?_
      refine ks_istore dX16_pushTo_76 (by decide) rfl ?_
      refine ks_sub [(6, _), (0, _), (1, _), (2, _), (3, _), (4, _), (5, _)] rfl ?_
      refine ks_nm (fun S1 e1 => ?_)
      have u1 : ks_up S S1 [381 + r9] := by rw [e1]; exact ks_upL (ks_up_set _ _ (List.mem_singleton.mpr rfl)) (List.mem_singleton.mpr rfl)
      have x1 : S1.2.2 (381 + r9) = some (kB 600 (va_up (va_up gs (iln r9) 76) (iln r9 + 1) (L % 256))) := by rw [e1]; exact ks_set_same _ _ _
      clear e1
      have n1 : ∀ {a : Nat}, a ≠ 381 + r9 → a ∉ [381 + r9] := fun h => by rw [List.mem_singleton]; exact h
      have k1 : kO (va_up (va_up gs (iln r9) 76) (iln r9 + 1) (L % 256)) := kO_up (kO_up kgs (by decide)) (Nat.mod_lt _ (by decide))
      have hp : psz L = L + 2 := by unfold psz; (repeat' split) <;> omega
      have hH : pushH L = [76, L] := by unfold pushH; rw [if_neg (by omega), if_pos (by omega)]
      have hG : bytL (va_up (va_up gs (iln r9) 76) (iln r9 + 1) (L % 256)) 0 (iln r9 + 2) = bytL gs 0 (iln r9) ++ pushH L := by
        rw [hH]
        exact (bytL_u1 (q := iln r9 + 1)).trans (by rw [bytL_u1, Nat.mod_eq_of_lt (show L < 256 by omega), List.append_assoc]; rfl)
      refine ks_sub [(0, _), (1, _), (2, _), (3, _), (4, _), (5, .int (nI (iln r9 + 2))), (6, _)] rfl (l_ptCp (gd := (va_up (va_up gs (iln r9) 76) (iln r9 + 1) (L % 256))) (u1.at hO (n1 (by omega))) (u1.at hy (n1 (by omega))) kg x1 k1 (by omega) hL hN (by omega) (fun S2 u2 e2 k2 => ?_) L 0 S1 (Nat.zero_add _) (ks_up.rf _ _) (by rw [ks_pt_0]; exact x1))
      have q453 := u2.at (u1.at h453 (n1 (by omega))) (n1 (by omega))
      have o2 := u2.at (u1.at hO (n1 (by omega))) (n1 (by omega))
      refine ks_aload_n dX16_pushTo_102 rfl rfl ?_
      refine ks_getf (T := TX16) (kf := 102) kx_2470 rfl in_X16 cl_X16 (by decide) o2 rfl dX16_pushTo_103 rfl ?_
      refine ks_iload_n dX16_pushTo_106 rfl rfl ?_
      refine ks_iload dX16_pushTo_107 rfl rfl ?_
      refine ks_iload_n dX16_pushTo_109 rfl rfl ?_
      refine ks_addN dX16_pushTo_110 rfl ?_
      refine ks_iastNN (i := r9) (v := iln r9 + 2 + L) (by decide) q453 (by omega) (by decide) dX16_pushTo_111 rfl ?_
      refine ks_ret rfl dX16_pushTo_112 ?_
      have u9 : ks_up S S2 [381 + r9, 453] := (u1.mono (fun a h => by rw [List.mem_singleton] at h; rw [h]; exact List.mem_cons_self)).trans (u2.mono (fun a h => by rw [List.mem_singleton] at h; rw [h]; exact List.mem_cons_self))
      have eL : iln r9 + psz L = iln r9 + 2 + L := by omega
      refine ⟨rfl, _, u9.trans (ks_up_set _ _ (by simp)), (ks_set_ne _ _ (by omega)).trans e2, k2, ?_, ?_⟩
      · rw [eL]
        exact ks_set_same _ _ _
      · rw [eL, bytL_pt2, hG, List.append_assoc]
        unfold pushL
        rw [bytL_len]
set_option maxRecDepth 100000 in
set_option maxHeartbeats 800000 in
theorem r_pushS {l : Launch} {G : ks_G} {d : Nat} {S : ks_S} {V : Nat → Value} (hO : S.2.2 290 = some (rfE V)) {t : Nat} {x : Int32} (v94 : V 94 = .int (nI t)) (ht : t ≤ 12) (h0 : t = 0) : ks_P l G yX16_push_ mX16_push_ (d + 1) [.ref 290, .int x] S (fun z S' => z = some (.int (nI 0)) ∧ ∃ V', pbK [] [111] S S' V V' ∧ V' 111 = .int (nI 2)) := by
  refine ks_of (by decide) rfl rfl (Nat.le_of_ble_eq_true rfl) ?_
  show ks_X l G mX16_push_ (d + 1) 0 [(0, .ref 290), (1, .int x)] [] S _
  refine ks_aload_n dX16_push__0 rfl rfl ?_
  refine ks_aload_n dX16_push__1 rfl rfl ?_
  refine ks_getf (T := TX16) (kf := 94) kx_2462 rfl in_X16 cl_X16 (by decide) hO rfl dX16_push__2 rfl ?_
  refine ks_tv v94 ?_
  refine ks_if_leN (tgt := 12) (by omega) dX16_push__5 (by decide) rfl (fun hc5 => ?_) (fun hc5 => ?_)
  · refine ks_iconst (x := nI 0) dX16_push__12 (by decide) rfl ?_
    refine ks_iconst (x := nI 2) dX16_push__13 (by decide) rfl ?_
    refine ks_callV (n := 2) (M' := mX16_good) (c_md_good0 hO) hO cl_X16 rfl kx_2734 kx_2736 kxp_127 kx_30 kx_2737 (by decide +kernel) rfl (by decide) (Nat.le_of_ble_eq_true rfl) rfl dX16_push__14 rfl (fun z14 S14 y14 => ?_)
    obtain ⟨rfl, V14, J14, v14⟩ := y14
    refine ks_if_eqN (tgt := 33) (by decide) dX16_push__17 (by decide) rfl (fun hc17 => ?_) (fun hc17 => ?_)
    · refine ks_iconst (x := nI 0) dX16_push__33 (by decide) rfl ?_
      refine ks_iret rfl dX16_push__34 ?_
      exact ⟨rfl, _, J14, v14⟩
    · exact absurd hc17 (by decide)
  · refine ks_iconst (x := nI 1) dX16_push__8 (by decide) rfl ?_
    refine ks_goto (tgt := 13) dX16_push__9 (by decide) ?_
    refine ks_iconst (x := nI 2) dX16_push__13 (by decide) rfl ?_
    omega
set_option maxRecDepth 100000 in
set_option maxHeartbeats 800000 in
theorem r_push {l : Launch} {G : ks_G} {d : Nat} {S : ks_S} {V : Nat → Value} (hO : S.2.2 290 = some (rfE V)) {i : Nat} (v94 : V 94 = .int (nI (i + 1))) {D : Nat → dTx} (hD : rdS S (i + 1) D) {T : List Nat} (hB : buX S V 531 1600 110 T) {x : Int32} (hx : ¬ (¬ x < 0 ∧ ¬ nI (D i).2.2.1.length ≤ x)) : ks_P l G yX16_push_ mX16_push_ (d + 1) [.ref 290, .int x] S (fun z S' => z = some (.int (nI 0)) ∧ ∃ V', pbK [] [111] S S' V V' ∧ V' 111 = .int (nI 1)) := by
  have hi12 := hD.1
  obtain ⟨-, ver, loc, inp, out, ids, ix, seq, iln, val, oln, sc, so, U, A⟩ := id hD
  have hA := A i (by omega)
  have hlen := (rdS_len (S := S) (t := i) (D := D) hA).1
  have h6 := hA.2.1
  obtain ⟨⟨h374, h375, h376, h377⟩, ⟨h378, kid⟩, ⟨h379, h453, h454, h528⟩, ⟨h380, h455⟩, hsc, ksc, hso, kso, hix⟩ := id U
  obtain ⟨vT, g, eT, kg, hT, em⟩ := id hB
  refine ks_of (by decide) rfl rfl (Nat.le_of_ble_eq_true rfl) ?_
  show ks_X l G mX16_push_ (d + 1) 0 [(0, .ref 290), (1, .int x)] [] S _
  refine ks_aload_n dX16_push__0 rfl rfl ?_
  refine ks_aload_n dX16_push__1 rfl rfl ?_
  refine ks_getf (T := TX16) (kf := 94) kx_2462 rfl in_X16 cl_X16 (by decide) hO rfl dX16_push__2 rfl ?_
  refine ks_tv v94 ?_
  refine ks_if_leN (tgt := 12) (by omega) dX16_push__5 (by decide) rfl (fun hc5 => ?_) (fun hc5 => ?_)
  · refine ks_iconst (x := nI 0) dX16_push__12 (by decide) rfl ?_
    refine ks_iconst (x := nI 2) dX16_push__13 (by decide) rfl ?_
    omega
  · refine ks_iconst (x := nI 1) dX16_push__8 (by decide) rfl ?_
    refine ks_goto (tgt := 13) dX16_push__9 (by decide) ?_
    refine ks_iconst (x := nI 2) dX16_push__13 (by decide) rfl ?_
    refine ks_callV (n := 2) (M' := mX16_good) (c_md_good1 hO) hO cl_X16 rfl kx_2734 kx_2736 kxp_127 kx_30 kx_2737 (by decide +kernel) rfl (by decide) (Nat.le_of_ble_eq_true rfl) rfl dX16_push__14 rfl (fun z14 S14 y14 => ?_)
    obtain ⟨rfl, V14, J14, v14⟩ := y14
    refine ks_if_eqN (tgt := 33) (by decide) dX16_push__17 (by decide) rfl (fun hc17 => ?_) (fun hc17 => ?_)
    · exact absurd hc17 (by decide)
    · refine ks_aload_n dX16_push__20 rfl rfl ?_
      refine ks_aload_n dX16_push__21 rfl rfl ?_
      refine ks_iload_n dX16_push__22 rfl rfl ?_
      refine ks_callV (n := 1) (M' := mX16_hasInput) (c_md_hasInput0 J14.2.1 ((J14.2.2 94 (by decide)).trans v94) (by omega) (J14.1.at h376 (by decide)) h6 (by rw [← hlen]; exact hx)) J14.2.1 cl_X16 rfl kx_2788 kx_2790 kxp_130 kx_30 kx_2791 (by decide +kernel) rfl (by decide) (Nat.le_of_ble_eq_true rfl) rfl dX16_push__23 rfl (fun z2 S2 y2 => ?_)
      obtain ⟨rfl, hq9y2⟩ := y2
      obtain rfl := hq9y2.symm
      refine ks_iconst (x := nI 1) dX16_push__26 (by decide) rfl ?_
      refine ks_callV (n := 2) (M' := mX16_good) (c_md_good0 J14.2.1) J14.2.1 cl_X16 rfl kx_2734 kx_2736 kxp_127 kx_30 kx_2737 (by decide +kernel) rfl (by decide) (Nat.le_of_ble_eq_true rfl) rfl dX16_push__27 rfl (fun z27 S27 y27 => ?_)
      obtain ⟨rfl, V27, J27, v27⟩ := y27
      have K27 := J14.trans J27
      refine ks_if_neN (tgt := 35) (by decide) dX16_push__30 (by decide) rfl (fun hc30 => ?_) (fun hc30 => ?_)
      · exact absurd hc30 (by decide)
      · refine ks_iconst (x := nI 0) dX16_push__33 (by decide) rfl ?_
        refine ks_iret rfl dX16_push__34 ?_
        exact ⟨rfl, _, K27, v27⟩
set_option maxRecDepth 100000 in
set_option maxHeartbeats 800000 in
theorem r_pushF {l : Launch} {G : ks_G} {d : Nat} {S : ks_S} {V : Nat → Value} (hO : S.2.2 290 = some (rfE V)) {i : Nat} (v94 : V 94 = .int (nI (i + 1))) {D : Nat → dTx} (hD : rdS S (i + 1) D) {T : List Nat} (hB : buX S V 531 1600 110 T) {j : Nat} {x : dIn} (hxi : (D i).2.2.1[j]? = some x) (hfit : ¬ x.2.2.1.length + psz T.length ≤ 600) : ks_P l G yX16_push_ mX16_push_ (d + 1) [.ref 290, .int (nI j)] S (fun z S' => z = some (.int (nI 0)) ∧ ∃ V', pbK [] [111] S S' V V' ∧ V' 111 = .int (nI 3)) := by
  have hi12 := hD.1
  obtain ⟨-, ver, loc, inp, out, ids, ix, seq, iln, val, oln, sc, so, U, A⟩ := id hD
  have hA := A i (by omega)
  have hlen := (rdS_len (S := S) (t := i) (D := D) hA).1
  have h6 := hA.2.1
  obtain ⟨⟨h374, h375, h376, h377⟩, ⟨h378, kid⟩, ⟨h379, h453, h454, h528⟩, ⟨h380, h455⟩, hsc, ksc, hso, kso, hix⟩ := id U
  obtain ⟨vT, g, eT, kg, hT, em⟩ := id hB
  have hxe := hxi
  rw [hA.1] at hxe
  obtain ⟨hj, ex⟩ := rdI_get hxe
  have lx : x.2.2.1.length = iln (6 * i + j) := by rw [ex]; exact bytL_len _ _ _
  have hi6 := hA.2.2.2.1 j hj
  have hps : psz T.length ≤ T.length + 3 := by unfold psz; (repeat' split) <;> omega
  refine ks_of (by decide) rfl rfl (Nat.le_of_ble_eq_true rfl) ?_
  show ks_X l G mX16_push_ (d + 1) 0 [(0, .ref 290), (1, .int (nI j))] [] S _
  refine ks_aload_n dX16_push__0 rfl rfl ?_
  refine ks_aload_n dX16_push__1 rfl rfl ?_
  refine ks_getf (T := TX16) (kf := 94) kx_2462 rfl in_X16 cl_X16 (by decide) hO rfl dX16_push__2 rfl ?_
  refine ks_tv v94 ?_
  refine ks_if_leN (tgt := 12) (by omega) dX16_push__5 (by decide) rfl (fun hc5 => ?_) (fun hc5 => ?_)
  · refine ks_iconst (x := nI 0) dX16_push__12 (by decide) rfl ?_
    refine ks_iconst (x := nI 2) dX16_push__13 (by decide) rfl ?_
    omega
  · refine ks_iconst (x := nI 1) dX16_push__8 (by decide) rfl ?_
    refine ks_goto (tgt := 13) dX16_push__9 (by decide) ?_
    refine ks_iconst (x := nI 2) dX16_push__13 (by decide) rfl ?_
    refine ks_callV (n := 2) (M' := mX16_good) (c_md_good1 hO) hO cl_X16 rfl kx_2734 kx_2736 kxp_127 kx_30 kx_2737 (by decide +kernel) rfl (by decide) (Nat.le_of_ble_eq_true rfl) rfl dX16_push__14 rfl (fun z14 S14 y14 => ?_)
    obtain ⟨rfl, V14, J14, v14⟩ := y14
    refine ks_if_eqN (tgt := 33) (by decide) dX16_push__17 (by decide) rfl (fun hc17 => ?_) (fun hc17 => ?_)
    · exact absurd hc17 (by decide)
    · refine ks_aload_n dX16_push__20 rfl rfl ?_
      refine ks_aload_n dX16_push__21 rfl rfl ?_
      refine ks_iload_n dX16_push__22 rfl rfl ?_
      refine ks_callV (n := 1) (M' := mX16_hasInput) (c_md_hasInput1 J14.2.1 ((J14.2.2 94 (by decide)).trans v94) (by omega) (J14.1.at h376 (by decide)) h6 hj) J14.2.1 cl_X16 rfl kx_2788 kx_2790 kxp_130 kx_30 kx_2791 (by decide +kernel) rfl (by decide) (Nat.le_of_ble_eq_true rfl) rfl dX16_push__23 rfl (fun z2 S2 y2 => ?_)
      obtain ⟨rfl, hq9y2⟩ := y2
      obtain rfl := hq9y2.symm
      refine ks_iconst (x := nI 1) dX16_push__26 (by decide) rfl ?_
      refine ks_callV (n := 2) (M' := mX16_good) (c_md_good1 J14.2.1) J14.2.1 cl_X16 rfl kx_2734 kx_2736 kxp_127 kx_30 kx_2737 (by decide +kernel) rfl (by decide) (Nat.le_of_ble_eq_true rfl) rfl dX16_push__27 rfl (fun z27 S27 y27 => ?_)
      obtain ⟨rfl, V27, J27, v27⟩ := y27
      have K27 := J14.trans J27
      refine ks_if_neN (tgt := 35) (by decide) dX16_push__30 (by decide) rfl (fun hc30 => ?_) (fun hc30 => ?_)
      · refine ks_bipush (x := nI 6) dX16_push__35 (by decide) rfl ?_
        refine ks_aload_n dX16_push__37 rfl rfl ?_
        refine ks_getf (T := TX16) (kf := 94) kx_2462 rfl in_X16 cl_X16 (by decide) J27.2.1 rfl dX16_push__38 rfl ?_
        refine ks_tv ((J27.2.2 94 (by decide)).trans ((J14.2.2 94 (by decide)).trans v94)) ?_
        refine ks_iconst (x := nI 1) dX16_push__41 (by decide) rfl ?_
        refine ks_subN (by omega) dX16_push__42 rfl ?_
        refine ks_ti (y := nI (i)) rfl ?_
        refine ks_mulN dX16_push__43 rfl ?_
        refine ks_iload_n dX16_push__44 rfl rfl ?_
        refine ks_addN dX16_push__45 rfl ?_
        refine ks_istore_n dX16_push__46 (by decide) rfl ?_
        refine ks_sub [(2, _), (0, _), (1, _)] rfl ?_
        refine ks_aload_n dX16_push__47 rfl rfl ?_
        refine ks_getf (T := TX16) (kf := 110) kx_2478 rfl in_X16 cl_X16 (by decide) J27.2.1 rfl dX16_push__48 rfl ?_
        refine ks_tv ((J27.2.2 110 (by decide)).trans ((J14.2.2 110 (by decide)).trans vT)) ?_
        refine ks_aload_n dX16_push__51 rfl rfl ?_
        refine ks_getf (T := TX16) (kf := 110) kx_2478 rfl in_X16 cl_X16 (by decide) J27.2.1 rfl dX16_push__52 rfl ?_
        refine ks_tv ((J27.2.2 110 (by decide)).trans ((J14.2.2 110 (by decide)).trans vT)) ?_
        refine ks_bipush (x := nI 76) dX16_push__55 (by decide) rfl ?_
        refine ks_icmp_geN (tgt := 64) (by omega) (by decide) dX16_push__57 (by decide) rfl (fun hc57 => ?_) (fun hc57 => ?_)
        · refine ks_aload_n dX16_push__64 rfl rfl ?_
          refine ks_getf (T := TX16) (kf := 110) kx_2478 rfl in_X16 cl_X16 (by decide) J27.2.1 rfl dX16_push__65 rfl ?_
          refine ks_tv ((J27.2.2 110 (by decide)).trans ((J14.2.2 110 (by decide)).trans vT)) ?_
          refine ks_sipush (x := nI 256) dX16_push__68 (by decide) rfl ?_
          refine ks_icmp_geN (tgt := 78) (by omega) (by decide) dX16_push__71 (by decide) rfl (fun hc71 => ?_) (fun hc71 => ?_)
          · refine ks_iconst (x := nI 3) dX16_push__78 (by decide) rfl ?_
            refine ks_addN dX16_push__79 rfl ?_
            refine ks_ti (y := nI (psz T.length)) (congrArg nI (by unfold psz; (repeat' split) <;> omega)) ?_
            refine ks_istore_n dX16_push__80 (by decide) rfl ?_
            refine ks_sub [(3, _), (0, _), (1, _), (2, _)] rfl ?_
            refine ks_aload_n dX16_push__81 rfl rfl ?_
            refine ks_aload_n dX16_push__82 rfl rfl ?_
            refine ks_getf (T := TX16) (kf := 102) kx_2470 rfl in_X16 cl_X16 (by decide) J27.2.1 rfl dX16_push__83 rfl ?_
            refine ks_iload_n dX16_push__86 rfl rfl ?_
            refine ks_ialdN (i := 6 * i + j) (J27.1.at (J14.1.at h453 (by decide)) (by decide)) rfl (by omega) (by decide) dX16_push__87 rfl ?_
            refine ks_iload_n dX16_push__88 rfl rfl ?_
            refine ks_addN dX16_push__89 rfl ?_
            refine ks_sipush (x := nI 600) dX16_push__90 (by decide) rfl ?_
            refine ks_icmp_gtN (tgt := 100) (by omega) (by decide) dX16_push__93 (by decide) rfl (fun hc93 => ?_) (fun hc93 => ?_)
            · refine ks_iconst (x := nI 0) dX16_push__100 (by decide) rfl ?_
              refine ks_iconst (x := nI 3) dX16_push__101 (by decide) rfl ?_
              refine ks_callV (n := 2) (M' := mX16_good) (c_md_good0 J27.2.1) J27.2.1 cl_X16 rfl kx_2734 kx_2736 kxp_127 kx_30 kx_2737 (by decide +kernel) rfl (by decide) (Nat.le_of_ble_eq_true rfl) rfl dX16_push__102 rfl (fun z102 S102 y102 => ?_)
              obtain ⟨rfl, V102, J102, v102⟩ := y102
              have K102 := K27.trans J102
              refine ks_if_neN (tgt := 110) (by decide) dX16_push__105 (by decide) rfl (fun hc105 => ?_) (fun hc105 => ?_)
              · exact absurd hc105 (by decide)
              · refine ks_iconst (x := nI 0) dX16_push__108 (by decide) rfl ?_
                refine ks_iret rfl dX16_push__109 ?_
                exact ⟨rfl, _, K102, v102⟩
            · refine ks_iconst (x := nI 1) dX16_push__96 (by decide) rfl ?_
              refine ks_goto (tgt := 101) dX16_push__97 (by decide) ?_
              refine ks_iconst (x := nI 3) dX16_push__101 (by decide) rfl ?_
              omega
          · refine ks_iconst (x := nI 2) dX16_push__74 (by decide) rfl ?_
            refine ks_goto (tgt := 79) dX16_push__75 (by decide) ?_
            refine ks_addN dX16_push__79 rfl ?_
            refine ks_ti (y := nI (psz T.length)) (congrArg nI (by unfold psz; (repeat' split) <;> omega)) ?_
            refine ks_istore_n dX16_push__80 (by decide) rfl ?_
            refine ks_sub [(3, _), (0, _), (1, _), (2, _)] rfl ?_
            refine ks_aload_n dX16_push__81 rfl rfl ?_
            refine ks_aload_n dX16_push__82 rfl rfl ?_
            refine ks_getf (T := TX16) (kf := 102) kx_2470 rfl in_X16 cl_X16 (by decide) J27.2.1 rfl dX16_push__83 rfl ?_
            refine ks_iload_n dX16_push__86 rfl rfl ?_
            refine ks_ialdN (i := 6 * i + j) (J27.1.at (J14.1.at h453 (by decide)) (by decide)) rfl (by omega) (by decide) dX16_push__87 rfl ?_
            refine ks_iload_n dX16_push__88 rfl rfl ?_
            refine ks_addN dX16_push__89 rfl ?_
            refine ks_sipush (x := nI 600) dX16_push__90 (by decide) rfl ?_
            refine ks_icmp_gtN (tgt := 100) (by omega) (by decide) dX16_push__93 (by decide) rfl (fun hc93 => ?_) (fun hc93 => ?_)
            · refine ks_iconst (x := nI 0) dX16_push__100 (by decide) rfl ?_
              refine ks_iconst (x := nI 3) dX16_push__101 (by decide) rfl ?_
              refine ks_callV (n := 2) (M' := mX16_good) (c_md_good0 J27.2.1) J27.2.1 cl_X16 rfl kx_2734 kx_2736 kxp_127 kx_30 kx_2737 (by decide +kernel) rfl (by decide) (Nat.le_of_ble_eq_true rfl) rfl dX16_push__102 rfl (fun z102 S102 y102 => ?_)
              obtain ⟨rfl, V102, J102, v102⟩ := y102
              have K102 := K27.trans J102
              refine ks_if_neN (tgt := 110) (by decide) dX16_push__105 (by decide) rfl (fun hc105 => ?_) (fun hc105 => ?_)
              · exact absurd hc105 (by decide)
              · refine ks_iconst (x := nI 0) dX16_push__108 (by decide) rfl ?_
                refine ks_iret rfl dX16_push__109 ?_
                exact ⟨rfl, _, K102, v102⟩
            · refine ks_iconst (x := nI 1) dX16_push__96 (by decide) rfl ?_
              refine ks_goto (tgt := 101) dX16_push__97 (by decide) ?_
              refine ks_iconst (x := nI 3) dX16_push__101 (by decide) rfl ?_
              omega
        · refine ks_iconst (x := nI 1) dX16_push__60 (by decide) rfl ?_
          refine ks_goto (tgt := 79) dX16_push__61 (by decide) ?_
          refine ks_addN dX16_push__79 rfl ?_
          refine ks_ti (y := nI (psz T.length)) (congrArg nI (by unfold psz; (repeat' split) <;> omega)) ?_
          refine ks_istore_n dX16_push__80 (by decide) rfl ?_
          refine ks_sub [(3, _), (0, _), (1, _), (2, _)] rfl ?_
          refine ks_aload_n dX16_push__81 rfl rfl ?_
          refine ks_aload_n dX16_push__82 rfl rfl ?_
          refine ks_getf (T := TX16) (kf := 102) kx_2470 rfl in_X16 cl_X16 (by decide) J27.2.1 rfl dX16_push__83 rfl ?_
          refine ks_iload_n dX16_push__86 rfl rfl ?_
          refine ks_ialdN (i := 6 * i + j) (J27.1.at (J14.1.at h453 (by decide)) (by decide)) rfl (by omega) (by decide) dX16_push__87 rfl ?_
          refine ks_iload_n dX16_push__88 rfl rfl ?_
          refine ks_addN dX16_push__89 rfl ?_
          refine ks_sipush (x := nI 600) dX16_push__90 (by decide) rfl ?_
          refine ks_icmp_gtN (tgt := 100) (by omega) (by decide) dX16_push__93 (by decide) rfl (fun hc93 => ?_) (fun hc93 => ?_)
          · refine ks_iconst (x := nI 0) dX16_push__100 (by decide) rfl ?_
            refine ks_iconst (x := nI 3) dX16_push__101 (by decide) rfl ?_
            refine ks_callV (n := 2) (M' := mX16_good) (c_md_good0 J27.2.1) J27.2.1 cl_X16 rfl kx_2734 kx_2736 kxp_127 kx_30 kx_2737 (by decide +kernel) rfl (by decide) (Nat.le_of_ble_eq_true rfl) rfl dX16_push__102 rfl (fun z102 S102 y102 => ?_)
            obtain ⟨rfl, V102, J102, v102⟩ := y102
            have K102 := K27.trans J102
            refine ks_if_neN (tgt := 110) (by decide) dX16_push__105 (by decide) rfl (fun hc105 => ?_) (fun hc105 => ?_)
            · exact absurd hc105 (by decide)
            · refine ks_iconst (x := nI 0) dX16_push__108 (by decide) rfl ?_
              refine ks_iret rfl dX16_push__109 ?_
              exact ⟨rfl, _, K102, v102⟩
          · refine ks_iconst (x := nI 1) dX16_push__96 (by decide) rfl ?_
            refine ks_goto (tgt := 101) dX16_push__97 (by decide) ?_
            refine ks_iconst (x := nI 3) dX16_push__101 (by decide) rfl ?_
            omega
      · exact absurd hc30 (by decide)
set_option maxRecDepth 100000 in
set_option maxHeartbeats 800000 in
theorem c_mr_push {l : Launch} {G : ks_G} {d : Nat} {S : ks_S} {V : Nat → Value} (hO : S.2.2 290 = some (rfE V)) {i : Nat} (v94 : V 94 = .int (nI (i + 1))) {D : Nat → dTx} (hD : rdS S (i + 1) D) {T : List Nat} (hB : buX S V 531 1600 110 T) {j : Nat} {x : dIn} (hxi : (D i).2.2.1[j]? = some x) (hfit : x.2.2.1.length + psz T.length ≤ 600) : ks_P l G yX16_push_ mX16_push_ (d + 1) [.ref 290, .int (nI j)] S (fun z S' => z = some (.int (nI (x.2.2.1.length + psz T.length))) ∧ ∃ V', pbK LDw [110, 111] S S' V V' ∧ V' 111 = .int (nI 0) ∧ buX S' V' 531 1600 110 [] ∧ rdS S' (i + 1) (va_up D i ((D i).1, (D i).2.1, dPush (D i).2.2.1 j (pushL T), (D i).2.2.2))) := by
  have hi12 := hD.1
  obtain ⟨-, ver, loc, inp, out, ids, ix, seq, iln, val, oln, sc, so, U, A⟩ := id hD
  have hA := A i (by omega)
  have hlen := (rdS_len (S := S) (t := i) (D := D) hA).1
  have h6 := hA.2.1
  obtain ⟨⟨h374, h375, h376, h377⟩, ⟨h378, kid⟩, ⟨h379, h453, h454, h528⟩, ⟨h380, h455⟩, hsc, ksc, hso, kso, hix⟩ := id U
  obtain ⟨vT, g, eT, kg, hT, em⟩ := id hB
  have hxe := hxi
  rw [hA.1] at hxe
  obtain ⟨hj, ex⟩ := rdI_get hxe
  have lx : x.2.2.1.length = iln (6 * i + j) := by rw [ex]; exact bytL_len _ _ _
  have hi6 := hA.2.2.2.1 j hj
  have hps : psz T.length ≤ T.length + 3 := by unfold psz; (repeat' split) <;> omega
  refine ks_of (by decide) rfl rfl (Nat.le_of_ble_eq_true rfl) ?_
  show ks_X l G mX16_push_ (d + 1) 0 [(0, .ref 290), (1, .int (nI j))] [] S _
  refine ks_aload_n dX16_push__0 rfl rfl ?_
  refine ks_aload_n dX16_push__1 rfl rfl ?_
  refine ks_getf (T := TX16) (kf := 94) kx_2462 rfl in_X16 cl_X16 (by decide) hO rfl dX16_push__2 rfl ?_
  refine ks_tv v94 ?_
  refine ks_if_leN (tgt := 12) (by omega) dX16_push__5 (by decide) rfl (fun hc5 => ?_) (fun hc5 => ?_)
  · refine ks_iconst (x := nI 0) dX16_push__12 (by decide) rfl ?_
    refine ks_iconst (x := nI 2) dX16_push__13 (by decide) rfl ?_
    omega
  · refine ks_iconst (x := nI 1) dX16_push__8 (by decide) rfl ?_
    refine ks_goto (tgt := 13) dX16_push__9 (by decide) ?_
    refine ks_iconst (x := nI 2) dX16_push__13 (by decide) rfl ?_
    refine ks_callV (n := 2) (M' := mX16_good) (c_md_good1 hO) hO cl_X16 rfl kx_2734 kx_2736 kxp_127 kx_30 kx_2737 (by decide +kernel) rfl (by decide) (Nat.le_of_ble_eq_true rfl) rfl dX16_push__14 rfl (fun z14 S14 y14 => ?_)
    obtain ⟨rfl, V14, J14, v14⟩ := y14
    refine ks_if_eqN (tgt := 33) (by decide) dX16_push__17 (by decide) rfl (fun hc17 => ?_) (fun hc17 => ?_)
    · exact absurd hc17 (by decide)
    · refine ks_aload_n dX16_push__20 rfl rfl ?_
      refine ks_aload_n dX16_push__21 rfl rfl ?_
      refine ks_iload_n dX16_push__22 rfl rfl ?_
      refine ks_callV (n := 1) (M' := mX16_hasInput) (c_md_hasInput1 J14.2.1 ((J14.2.2 94 (by decide)).trans v94) (by omega) (J14.1.at h376 (by decide)) h6 hj) J14.2.1 cl_X16 rfl kx_2788 kx_2790 kxp_130 kx_30 kx_2791 (by decide +kernel) rfl (by decide) (Nat.le_of_ble_eq_true rfl) rfl dX16_push__23 rfl (fun z2 S2 y2 => ?_)
      obtain ⟨rfl, hq9y2⟩ := y2
      obtain rfl := hq9y2.symm
      refine ks_iconst (x := nI 1) dX16_push__26 (by decide) rfl ?_
      refine ks_callV (n := 2) (M' := mX16_good) (c_md_good1 J14.2.1) J14.2.1 cl_X16 rfl kx_2734 kx_2736 kxp_127 kx_30 kx_2737 (by decide +kernel) rfl (by decide) (Nat.le_of_ble_eq_true rfl) rfl dX16_push__27 rfl (fun z27 S27 y27 => ?_)
      obtain ⟨rfl, V27, J27, v27⟩ := y27
      have K27 := J14.trans J27
      refine ks_if_neN (tgt := 35) (by decide) dX16_push__30 (by decide) rfl (fun hc30 => ?_) (fun hc30 => ?_)
      · refine ks_bipush (x := nI 6) dX16_push__35 (by decide) rfl ?_
        refine ks_aload_n dX16_push__37 rfl rfl ?_
        refine ks_getf (T := TX16) (kf := 94) kx_2462 rfl in_X16 cl_X16 (by decide) J27.2.1 rfl dX16_push__38 rfl ?_
        refine ks_tv ((J27.2.2 94 (by decide)).trans ((J14.2.2 94 (by decide)).trans v94)) ?_
        refine ks_iconst (x := nI 1) dX16_push__41 (by decide) rfl ?_
        refine ks_subN (by omega) dX16_push__42 rfl ?_
        refine ks_ti (y := nI (i)) rfl ?_
        refine ks_mulN dX16_push__43 rfl ?_
        refine ks_iload_n dX16_push__44 rfl rfl ?_
        refine ks_addN dX16_push__45 rfl ?_
        refine ks_istore_n dX16_push__46 (by decide) rfl ?_
        refine ks_sub [(2, _), (0, _), (1, _)] rfl ?_
        refine ks_aload_n dX16_push__47 rfl rfl ?_
        refine ks_getf (T := TX16) (kf := 110) kx_2478 rfl in_X16 cl_X16 (by decide) J27.2.1 rfl dX16_push__48 rfl ?_
        refine ks_tv ((J27.2.2 110 (by decide)).trans ((J14.2.2 110 (by decide)).trans vT)) ?_
        refine ks_aload_n dX16_push__51 rfl rfl ?_
        refine ks_getf (T := TX16) (kf := 110) kx_2478 rfl in_X16 cl_X16 (by decide) J27.2.1 rfl dX16_push__52 rfl ?_
        refine ks_tv ((J27.2.2 110 (by decide)).trans ((J14.2.2 110 (by decide)).trans vT)) ?_
        refine ks_bipush (x := nI 76) dX16_push__55 (by decide) rfl ?_
        refine ks_icmp_geN (tgt := 64) (by omega) (by decide) dX16_push__57 (by decide) rfl (fun hc57 => ?_) (fun hc57 => ?_)
        · refine ks_aload_n dX16_push__64 rfl rfl ?_
          refine ks_getf (T := TX16) (kf := 110) kx_2478 rfl in_X16 cl_X16 (by decide) J27.2.1 rfl dX16_push__65 rfl ?_
          refine ks_tv ((J27.2.2 110 (by decide)).trans ((J14.2.2 110 (by decide)).trans vT)) ?_
          refine ks_sipush (x := nI 256) dX16_push__68 (by decide) rfl ?_
          refine ks_icmp_geN (tgt := 78) (by omega) (by decide) dX16_push__71 (by decide) rfl (fun hc71 => ?_) (fun hc71 => ?_)
          · refine ks_iconst (x := nI 3) dX16_push__78 (by decide) rfl ?_
            refine ks_addN dX16_push__79 rfl ?_
            refine ks_ti (y := nI (psz T.length)) (congrArg nI (by unfold psz; (repeat' split) <;> omega)) ?_
            refine ks_istore_n dX16_push__80 (by decide) rfl ?_
            refine ks_sub [(3, _), (0, _), (1, _), (2, _)] rfl ?_
            refine ks_aload_n dX16_push__81 rfl rfl ?_
            refine ks_aload_n dX16_push__82 rfl rfl ?_
            refine ks_getf (T := TX16) (kf := 102) kx_2470 rfl in_X16 cl_X16 (by decide) J27.2.1 rfl dX16_push__83 rfl ?_
            refine ks_iload_n dX16_push__86 rfl rfl ?_
            refine ks_ialdN (i := 6 * i + j) (J27.1.at (J14.1.at h453 (by decide)) (by decide)) rfl (by omega) (by decide) dX16_push__87 rfl ?_
            refine ks_iload_n dX16_push__88 rfl rfl ?_
            refine ks_addN dX16_push__89 rfl ?_
            refine ks_sipush (x := nI 600) dX16_push__90 (by decide) rfl ?_
            refine ks_icmp_gtN (tgt := 100) (by omega) (by decide) dX16_push__93 (by decide) rfl (fun hc93 => ?_) (fun hc93 => ?_)
            · refine ks_iconst (x := nI 0) dX16_push__100 (by decide) rfl ?_
              refine ks_iconst (x := nI 3) dX16_push__101 (by decide) rfl ?_
              omega
            · refine ks_iconst (x := nI 1) dX16_push__96 (by decide) rfl ?_
              refine ks_goto (tgt := 101) dX16_push__97 (by decide) ?_
              refine ks_iconst (x := nI 3) dX16_push__101 (by decide) rfl ?_
              refine ks_callV (n := 2) (M' := mX16_good) (c_md_good1 J27.2.1) J27.2.1 cl_X16 rfl kx_2734 kx_2736 kxp_127 kx_30 kx_2737 (by decide +kernel) rfl (by decide) (Nat.le_of_ble_eq_true rfl) rfl dX16_push__102 rfl (fun z102 S102 y102 => ?_)
              obtain ⟨rfl, V102, J102, v102⟩ := y102
              have K102 := K27.trans J102
              refine ks_if_neN (tgt := 110) (by decide) dX16_push__105 (by decide) rfl (fun hc105 => ?_) (fun hc105 => ?_)
              · refine ks_aload_n dX16_push__110 rfl rfl ?_
                refine ks_iload_n dX16_push__111 rfl rfl ?_
                refine ks_aload_n dX16_push__112 rfl rfl ?_
                refine ks_getf (T := TX16) (kf := 109) kx_2477 rfl in_X16 cl_X16 (by decide) J102.2.1 rfl dX16_push__113 rfl ?_
                refine ks_aload_n dX16_push__116 rfl rfl ?_
                refine ks_getf (T := TX16) (kf := 110) kx_2478 rfl in_X16 cl_X16 (by decide) J102.2.1 rfl dX16_push__117 rfl ?_
                refine ks_tv ((J102.2.2 110 (by decide)).trans ((J27.2.2 110 (by decide)).trans ((J14.2.2 110 (by decide)).trans vT))) ?_
                have t9 : ∀ {a : Nat} {e : ks_E}, S.2.2 a = some e → a ≠ 290 → S102.2.2 a = some e := fun h1 h2 => K102.1.at h1 (by rw [List.mem_singleton]; exact h2)
                refine ks_callV (n := 3) (M' := mX16_pushTo) (c_md_pushTo K102.2.1 (t9 h380 (by decide)) (t9 h453 (by decide)) (r9 := 6 * i + j) (by omega) (t9 (hsc _ (by omega)) (by omega)) (ksc _) (t9 eT (by decide)) kg (by omega) (by decide) (by omega) (by decide)) J102.2.1 cl_X16 rfl kx_2792 kx_2794 kxp_131 kx_30 kx_2795 (by decide +kernel) rfl (by decide) (Nat.le_of_ble_eq_true rfl) rfl dX16_push__120 rfl (fun z7 S7 y7 => ?_)
                obtain ⟨rfl, gs7, u7, e7, k7, q453, hb7⟩ := y7
                have n7 : ∀ {a : Nat}, a ≠ 381 + (6 * i + j) → a ≠ 453 → a ∉ [381 + (6 * i + j), 453] := fun h1 h2 hm => by simp only [List.mem_cons, List.not_mem_nil, or_false] at hm; omega
                have o7 := u7.at K102.2.1 (n7 (by omega) (by decide))
                refine ks_aload_n dX16_push__123 rfl rfl ?_
                refine ks_iconst (x := nI 0) dX16_push__124 (by decide) rfl ?_
                refine ks_putf (T := TX16) (kf := 110) kx_2478 rfl in_X16 tyX16_ok nmX16 cl_X16 (by decide) o7 (Nat.le_of_ble_eq_true rfl) rfl rfl rfl rfl dX16_push__125 rfl ?_
                refine md_put mdp_110 ?_
                refine ks_aload_n dX16_push__128 rfl rfl ?_
                refine ks_getf (T := TX16) (kf := 102) kx_2470 rfl in_X16 cl_X16 (by decide) (ks_set_same _ _ _) rfl dX16_push__129 rfl ?_
                refine ks_iload_n dX16_push__132 rfl rfl ?_
                refine ks_ialdN (i := 6 * i + j) ((ks_set_ne _ _ (by decide)).trans q453) rfl (by omega) (by decide) dX16_push__133 rfl ?_
                refine ks_iret rfl dX16_push__134 ?_
                have m9 : ∀ {a : Nat}, 374 ≤ a → a < 529 → a ∈ 290 :: LDw := fun h1 h2 => List.mem_cons_of_mem _ (mem_LDw.mpr ⟨h1, h2⟩)
                have ua : ks_up S S7 (290 :: LDw) := (K102.1.mono (fun a ha => by rw [List.mem_singleton] at ha; rw [ha]; exact List.mem_cons_self)).trans (u7.mono (fun a ha => by
                  simp only [List.mem_cons, List.not_mem_nil, or_false] at ha
                  exact m9 (by omega) (by omega)))
                have s9 : ∀ {a : Nat} {e : ks_E}, S.2.2 a = some e → a ≠ 290 → a ≠ 453 → a ≠ 381 + (6 * i + j) → (ks_set S7 290 (rfE (va_up V102 110 (.int (nI 0))))).2.2 a = some e := fun {a e} h1 h2 h3 h4 => by
                  rw [ks_set_ne _ _ h2]
                  exact u7.at (t9 h1 h2) (n7 h4 h3)
                refine ⟨by rw [va_up_self, lx], va_up V102 110 (.int (nI 0)), ⟨ua.trans (ks_up_set _ _ List.mem_cons_self), ks_set_same _ _ _, fun z hz => ?_⟩, (va_up_ne _ _ (by decide)).trans v102, ⟨va_up_self _ _ _, g, s9 eT (by decide) (by decide) (by omega), kg, Nat.zero_le _, rfl⟩, hi12, ver, loc, inp, out, ids, ix, seq, va_up iln (6 * i + j) (iln (6 * i + j) + psz T.length), val, oln, va_up sc (6 * i + j) gs7, so, ?_, fun q hq => ?_⟩
                · simp only [List.mem_cons, List.not_mem_nil, or_false, not_or] at hz
                  rw [va_up_ne _ _ hz.1]
                  exact K102.2.2 z (by rw [List.mem_singleton]; exact hz.2)
                · refine ⟨⟨s9 h374 (by decide) (by decide) (by omega), s9 h375 (by decide) (by decide) (by omega), s9 h376 (by decide) (by decide) (by omega), s9 h377 (by decide) (by decide) (by omega)⟩, ⟨s9 h378 (by decide) (by decide) (by omega), kid⟩, ⟨s9 h379 (by decide) (by decide) (by omega), (ks_set_ne _ _ (by decide)).trans q453, s9 h454 (by decide) (by decide) (by omega), s9 h528 (by decide) (by decide) (by omega)⟩, ⟨s9 h380 (by decide) (by decide) (by omega), s9 h455 (by decide) (by decide) (by omega)⟩, fun r hr => ?_, fun r => ?_, fun r hr => s9 (hso r hr) (by omega) (by omega) (by omega), kso, hix⟩
                  · by_cases h : r = 6 * i + j
                    · rw [h, va_up_self]
                      exact (ks_set_ne _ _ (by omega)).trans e7
                    · rw [va_up_ne _ _ h]
                      exact s9 (hsc r hr) (by omega) (by omega) (by omega)
                  · by_cases h : r = 6 * i + j
                    · rw [h, va_up_self]
                      exact k7
                    · rw [va_up_ne _ _ h]
                      exact ksc r
                · by_cases h : q = i
                  · subst h
                    obtain ⟨eD, -, o6, hi6a, ho6⟩ := hA
                    rw [va_up_self]
                    refine ⟨?_, h6, o6, fun z hz => ?_, ho6⟩
                    · rw [rdI_push (b := 6 * q) (p := pushL T) (by rw [hb7, ← em]), eD]
                    · by_cases h : z = j
                      · rw [h, va_up_self]
                        omega
                      · rw [va_up_ne _ _ (by omega)]
                        exact hi6a z hz
                  · rw [va_up_ne _ _ h]
                    exact rdA_cg (A q hq) rfl rfl rfl rfl (fun r h1 h2 => ⟨fun _ _ => rfl, rfl, rfl, va_up_ne _ _ (by omega), rfl, rfl, va_up_ne _ _ (by omega), rfl⟩)
              · exact absurd hc105 (by decide)
          · refine ks_iconst (x := nI 2) dX16_push__74 (by decide) rfl ?_
            refine ks_goto (tgt := 79) dX16_push__75 (by decide) ?_
            refine ks_addN dX16_push__79 rfl ?_
            refine ks_ti (y := nI (psz T.length)) (congrArg nI (by unfold psz; (repeat' split) <;> omega)) ?_
            refine ks_istore_n dX16_push__80 (by decide) rfl ?_
            refine ks_sub [(3, _), (0, _), (1, _), (2, _)] rfl ?_
            refine ks_aload_n dX16_push__81 rfl rfl ?_
            refine ks_aload_n dX16_push__82 rfl rfl ?_
            refine ks_getf (T := TX16) (kf := 102) kx_2470 rfl in_X16 cl_X16 (by decide) J27.2.1 rfl dX16_push__83 rfl ?_
            refine ks_iload_n dX16_push__86 rfl rfl ?_
            refine ks_ialdN (i := 6 * i + j) (J27.1.at (J14.1.at h453 (by decide)) (by decide)) rfl (by omega) (by decide) dX16_push__87 rfl ?_
            refine ks_iload_n dX16_push__88 rfl rfl ?_
            refine ks_addN dX16_push__89 rfl ?_
            refine ks_sipush (x := nI 600) dX16_push__90 (by decide) rfl ?_
            refine ks_icmp_gtN (tgt := 100) (by omega) (by decide) dX16_push__93 (by decide) rfl (fun hc93 => ?_) (fun hc93 => ?_)
            · refine ks_iconst (x := nI 0) dX16_push__100 (by decide) rfl ?_
              refine ks_iconst (x := nI 3) dX16_push__101 (by decide) rfl ?_
              omega
            · refine ks_iconst (x := nI 1) dX16_push__96 (by decide) rfl ?_
              refine ks_goto (tgt := 101) dX16_push__97 (by decide) ?_
              refine ks_iconst (x := nI 3) dX16_push__101 (by decide) rfl ?_
              refine ks_callV (n := 2) (M' := mX16_good) (c_md_good1 J27.2.1) J27.2.1 cl_X16 rfl kx_2734 kx_2736 kxp_127 kx_30 kx_2737 (by decide +kernel) rfl (by decide) (Nat.le_of_ble_eq_true rfl) rfl dX16_push__102 rfl (fun z102 S102 y102 => ?_)
              obtain ⟨rfl, V102, J102, v102⟩ := y102
              have K102 := K27.trans J102
              refine ks_if_neN (tgt := 110) (by decide) dX16_push__105 (by decide) rfl (fun hc105 => ?_) (fun hc105 => ?_)
              · refine ks_aload_n dX16_push__110 rfl rfl ?_
                refine ks_iload_n dX16_push__111 rfl rfl ?_
                refine ks_aload_n dX16_push__112 rfl rfl ?_
                refine ks_getf (T := TX16) (kf := 109) kx_2477 rfl in_X16 cl_X16 (by decide) J102.2.1 rfl dX16_push__113 rfl ?_
                refine ks_aload_n dX16_push__116 rfl rfl ?_
                refine ks_getf (T := TX16) (kf := 110) kx_2478 rfl in_X16 cl_X16 (by decide) J102.2.1 rfl dX16_push__117 rfl ?_
                refine ks_tv ((J102.2.2 110 (by decide)).trans ((J27.2.2 110 (by decide)).trans ((J14.2.2 110 (by decide)).trans vT))) ?_
                have t9 : ∀ {a : Nat} {e : ks_E}, S.2.2 a = some e → a ≠ 290 → S102.2.2 a = some e := fun h1 h2 => K102.1.at h1 (by rw [List.mem_singleton]; exact h2)
                refine ks_callV (n := 3) (M' := mX16_pushTo) (c_md_pushTo K102.2.1 (t9 h380 (by decide)) (t9 h453 (by decide)) (r9 := 6 * i + j) (by omega) (t9 (hsc _ (by omega)) (by omega)) (ksc _) (t9 eT (by decide)) kg (by omega) (by decide) (by omega) (by decide)) J102.2.1 cl_X16 rfl kx_2792 kx_2794 kxp_131 kx_30 kx_2795 (by decide +kernel) rfl (by decide) (Nat.le_of_ble_eq_true rfl) rfl dX16_push__120 rfl (fun z7 S7 y7 => ?_)
                obtain ⟨rfl, gs7, u7, e7, k7, q453, hb7⟩ := y7
                have n7 : ∀ {a : Nat}, a ≠ 381 + (6 * i + j) → a ≠ 453 → a ∉ [381 + (6 * i + j), 453] := fun h1 h2 hm => by simp only [List.mem_cons, List.not_mem_nil, or_false] at hm; omega
                have o7 := u7.at K102.2.1 (n7 (by omega) (by decide))
                refine ks_aload_n dX16_push__123 rfl rfl ?_
                refine ks_iconst (x := nI 0) dX16_push__124 (by decide) rfl ?_
                refine ks_putf (T := TX16) (kf := 110) kx_2478 rfl in_X16 tyX16_ok nmX16 cl_X16 (by decide) o7 (Nat.le_of_ble_eq_true rfl) rfl rfl rfl rfl dX16_push__125 rfl ?_
                refine md_put mdp_110 ?_
                refine ks_aload_n dX16_push__128 rfl rfl ?_
                refine ks_getf (T := TX16) (kf := 102) kx_2470 rfl in_X16 cl_X16 (by decide) (ks_set_same _ _ _) rfl dX16_push__129 rfl ?_
                refine ks_iload_n dX16_push__132 rfl rfl ?_
                refine ks_ialdN (i := 6 * i + j) ((ks_set_ne _ _ (by decide)).trans q453) rfl (by omega) (by decide) dX16_push__133 rfl ?_
                refine ks_iret rfl dX16_push__134 ?_
                have m9 : ∀ {a : Nat}, 374 ≤ a → a < 529 → a ∈ 290 :: LDw := fun h1 h2 => List.mem_cons_of_mem _ (mem_LDw.mpr ⟨h1, h2⟩)
                have ua : ks_up S S7 (290 :: LDw) := (K102.1.mono (fun a ha => by rw [List.mem_singleton] at ha; rw [ha]; exact List.mem_cons_self)).trans (u7.mono (fun a ha => by
                  simp only [List.mem_cons, List.not_mem_nil, or_false] at ha
                  exact m9 (by omega) (by omega)))
                have s9 : ∀ {a : Nat} {e : ks_E}, S.2.2 a = some e → a ≠ 290 → a ≠ 453 → a ≠ 381 + (6 * i + j) → (ks_set S7 290 (rfE (va_up V102 110 (.int (nI 0))))).2.2 a = some e := fun {a e} h1 h2 h3 h4 => by
                  rw [ks_set_ne _ _ h2]
                  exact u7.at (t9 h1 h2) (n7 h4 h3)
                refine ⟨by rw [va_up_self, lx], va_up V102 110 (.int (nI 0)), ⟨ua.trans (ks_up_set _ _ List.mem_cons_self), ks_set_same _ _ _, fun z hz => ?_⟩, (va_up_ne _ _ (by decide)).trans v102, ⟨va_up_self _ _ _, g, s9 eT (by decide) (by decide) (by omega), kg, Nat.zero_le _, rfl⟩, hi12, ver, loc, inp, out, ids, ix, seq, va_up iln (6 * i + j) (iln (6 * i + j) + psz T.length), val, oln, va_up sc (6 * i + j) gs7, so, ?_, fun q hq => ?_⟩
                · simp only [List.mem_cons, List.not_mem_nil, or_false, not_or] at hz
                  rw [va_up_ne _ _ hz.1]
                  exact K102.2.2 z (by rw [List.mem_singleton]; exact hz.2)
                · refine ⟨⟨s9 h374 (by decide) (by decide) (by omega), s9 h375 (by decide) (by decide) (by omega), s9 h376 (by decide) (by decide) (by omega), s9 h377 (by decide) (by decide) (by omega)⟩, ⟨s9 h378 (by decide) (by decide) (by omega), kid⟩, ⟨s9 h379 (by decide) (by decide) (by omega), (ks_set_ne _ _ (by decide)).trans q453, s9 h454 (by decide) (by decide) (by omega), s9 h528 (by decide) (by decide) (by omega)⟩, ⟨s9 h380 (by decide) (by decide) (by omega), s9 h455 (by decide) (by decide) (by omega)⟩, fun r hr => ?_, fun r => ?_, fun r hr => s9 (hso r hr) (by omega) (by omega) (by omega), kso, hix⟩
                  · by_cases h : r = 6 * i + j
                    · rw [h, va_up_self]
                      exact (ks_set_ne _ _ (by omega)).trans e7
                    · rw [va_up_ne _ _ h]
                      exact s9 (hsc r hr) (by omega) (by omega) (by omega)
                  · by_cases h : r = 6 * i + j
                    · rw [h, va_up_self]
                      exact k7
                    · rw [va_up_ne _ _ h]
                      exact ksc r
                · by_cases h : q = i
                  · subst h
                    obtain ⟨eD, -, o6, hi6a, ho6⟩ := hA
                    rw [va_up_self]
                    refine ⟨?_, h6, o6, fun z hz => ?_, ho6⟩
                    · rw [rdI_push (b := 6 * q) (p := pushL T) (by rw [hb7, ← em]), eD]
                    · by_cases h : z = j
                      · rw [h, va_up_self]
                        omega
                      · rw [va_up_ne _ _ (by omega)]
                        exact hi6a z hz
                  · rw [va_up_ne _ _ h]
                    exact rdA_cg (A q hq) rfl rfl rfl rfl (fun r h1 h2 => ⟨fun _ _ => rfl, rfl, rfl, va_up_ne _ _ (by omega), rfl, rfl, va_up_ne _ _ (by omega), rfl⟩)
              · exact absurd hc105 (by decide)
        · refine ks_iconst (x := nI 1) dX16_push__60 (by decide) rfl ?_
          refine ks_goto (tgt := 79) dX16_push__61 (by decide) ?_
          refine ks_addN dX16_push__79 rfl ?_
          refine ks_ti (y := nI (psz T.length)) (congrArg nI (by unfold psz; (repeat' split) <;> omega)) ?_
          refine ks_istore_n dX16_push__80 (by decide) rfl ?_
          refine ks_sub [(3, _), (0, _), (1, _), (2, _)] rfl ?_
          refine ks_aload_n dX16_push__81 rfl rfl ?_
          refine ks_aload_n dX16_push__82 rfl rfl ?_
          refine ks_getf (T := TX16) (kf := 102) kx_2470 rfl in_X16 cl_X16 (by decide) J27.2.1 rfl dX16_push__83 rfl ?_
          refine ks_iload_n dX16_push__86 rfl rfl ?_
          refine ks_ialdN (i := 6 * i + j) (J27.1.at (J14.1.at h453 (by decide)) (by decide)) rfl (by omega) (by decide) dX16_push__87 rfl ?_
          refine ks_iload_n dX16_push__88 rfl rfl ?_
          refine ks_addN dX16_push__89 rfl ?_
          refine ks_sipush (x := nI 600) dX16_push__90 (by decide) rfl ?_
          refine ks_icmp_gtN (tgt := 100) (by omega) (by decide) dX16_push__93 (by decide) rfl (fun hc93 => ?_) (fun hc93 => ?_)
          · refine ks_iconst (x := nI 0) dX16_push__100 (by decide) rfl ?_
            refine ks_iconst (x := nI 3) dX16_push__101 (by decide) rfl ?_
            omega
          · refine ks_iconst (x := nI 1) dX16_push__96 (by decide) rfl ?_
            refine ks_goto (tgt := 101) dX16_push__97 (by decide) ?_
            refine ks_iconst (x := nI 3) dX16_push__101 (by decide) rfl ?_
            refine ks_callV (n := 2) (M' := mX16_good) (c_md_good1 J27.2.1) J27.2.1 cl_X16 rfl kx_2734 kx_2736 kxp_127 kx_30 kx_2737 (by decide +kernel) rfl (by decide) (Nat.le_of_ble_eq_true rfl) rfl dX16_push__102 rfl (fun z102 S102 y102 => ?_)
            obtain ⟨rfl, V102, J102, v102⟩ := y102
            have K102 := K27.trans J102
            refine ks_if_neN (tgt := 110) (by decide) dX16_push__105 (by decide) rfl (fun hc105 => ?_) (fun hc105 => ?_)
            · refine ks_aload_n dX16_push__110 rfl rfl ?_
              refine ks_iload_n dX16_push__111 rfl rfl ?_
              refine ks_aload_n dX16_push__112 rfl rfl ?_
              refine ks_getf (T := TX16) (kf := 109) kx_2477 rfl in_X16 cl_X16 (by decide) J102.2.1 rfl dX16_push__113 rfl ?_
              refine ks_aload_n dX16_push__116 rfl rfl ?_
              refine ks_getf (T := TX16) (kf := 110) kx_2478 rfl in_X16 cl_X16 (by decide) J102.2.1 rfl dX16_push__117 rfl ?_
              refine ks_tv ((J102.2.2 110 (by decide)).trans ((J27.2.2 110 (by decide)).trans ((J14.2.2 110 (by decide)).trans vT))) ?_
              have t9 : ∀ {a : Nat} {e : ks_E}, S.2.2 a = some e → a ≠ 290 → S102.2.2 a = some e := fun h1 h2 => K102.1.at h1 (by rw [List.mem_singleton]; exact h2)
              refine ks_callV (n := 3) (M' := mX16_pushTo) (c_md_pushTo K102.2.1 (t9 h380 (by decide)) (t9 h453 (by decide)) (r9 := 6 * i + j) (by omega) (t9 (hsc _ (by omega)) (by omega)) (ksc _) (t9 eT (by decide)) kg (by omega) (by decide) (by omega) (by decide)) J102.2.1 cl_X16 rfl kx_2792 kx_2794 kxp_131 kx_30 kx_2795 (by decide +kernel) rfl (by decide) (Nat.le_of_ble_eq_true rfl) rfl dX16_push__120 rfl (fun z7 S7 y7 => ?_)
              obtain ⟨rfl, gs7, u7, e7, k7, q453, hb7⟩ := y7
              have n7 : ∀ {a : Nat}, a ≠ 381 + (6 * i + j) → a ≠ 453 → a ∉ [381 + (6 * i + j), 453] := fun h1 h2 hm => by simp only [List.mem_cons, List.not_mem_nil, or_false] at hm; omega
              have o7 := u7.at K102.2.1 (n7 (by omega) (by decide))
              refine ks_aload_n dX16_push__123 rfl rfl ?_
              refine ks_iconst (x := nI 0) dX16_push__124 (by decide) rfl ?_
              refine ks_putf (T := TX16) (kf := 110) kx_2478 rfl in_X16 tyX16_ok nmX16 cl_X16 (by decide) o7 (Nat.le_of_ble_eq_true rfl) rfl rfl rfl rfl dX16_push__125 rfl ?_
              refine md_put mdp_110 ?_
              refine ks_aload_n dX16_push__128 rfl rfl ?_
              refine ks_getf (T := TX16) (kf := 102) kx_2470 rfl in_X16 cl_X16 (by decide) (ks_set_same _ _ _) rfl dX16_push__129 rfl ?_
              refine ks_iload_n dX16_push__132 rfl rfl ?_
              refine ks_ialdN (i := 6 * i + j) ((ks_set_ne _ _ (by decide)).trans q453) rfl (by omega) (by decide) dX16_push__133 rfl ?_
              refine ks_iret rfl dX16_push__134 ?_
              have m9 : ∀ {a : Nat}, 374 ≤ a → a < 529 → a ∈ 290 :: LDw := fun h1 h2 => List.mem_cons_of_mem _ (mem_LDw.mpr ⟨h1, h2⟩)
              have ua : ks_up S S7 (290 :: LDw) := (K102.1.mono (fun a ha => by rw [List.mem_singleton] at ha; rw [ha]; exact List.mem_cons_self)).trans (u7.mono (fun a ha => by
                simp only [List.mem_cons, List.not_mem_nil, or_false] at ha
                exact m9 (by omega) (by omega)))
              have s9 : ∀ {a : Nat} {e : ks_E}, S.2.2 a = some e → a ≠ 290 → a ≠ 453 → a ≠ 381 + (6 * i + j) → (ks_set S7 290 (rfE (va_up V102 110 (.int (nI 0))))).2.2 a = some e := fun {a e} h1 h2 h3 h4 => by
                rw [ks_set_ne _ _ h2]
                exact u7.at (t9 h1 h2) (n7 h4 h3)
              refine ⟨by rw [va_up_self, lx], va_up V102 110 (.int (nI 0)), ⟨ua.trans (ks_up_set _ _ List.mem_cons_self), ks_set_same _ _ _, fun z hz => ?_⟩, (va_up_ne _ _ (by decide)).trans v102, ⟨va_up_self _ _ _, g, s9 eT (by decide) (by decide) (by omega), kg, Nat.zero_le _, rfl⟩, hi12, ver, loc, inp, out, ids, ix, seq, va_up iln (6 * i + j) (iln (6 * i + j) + psz T.length), val, oln, va_up sc (6 * i + j) gs7, so, ?_, fun q hq => ?_⟩
              · simp only [List.mem_cons, List.not_mem_nil, or_false, not_or] at hz
                rw [va_up_ne _ _ hz.1]
                exact K102.2.2 z (by rw [List.mem_singleton]; exact hz.2)
              · refine ⟨⟨s9 h374 (by decide) (by decide) (by omega), s9 h375 (by decide) (by decide) (by omega), s9 h376 (by decide) (by decide) (by omega), s9 h377 (by decide) (by decide) (by omega)⟩, ⟨s9 h378 (by decide) (by decide) (by omega), kid⟩, ⟨s9 h379 (by decide) (by decide) (by omega), (ks_set_ne _ _ (by decide)).trans q453, s9 h454 (by decide) (by decide) (by omega), s9 h528 (by decide) (by decide) (by omega)⟩, ⟨s9 h380 (by decide) (by decide) (by omega), s9 h455 (by decide) (by decide) (by omega)⟩, fun r hr => ?_, fun r => ?_, fun r hr => s9 (hso r hr) (by omega) (by omega) (by omega), kso, hix⟩
                · by_cases h : r = 6 * i + j
                  · rw [h, va_up_self]
                    exact (ks_set_ne _ _ (by omega)).trans e7
                  · rw [va_up_ne _ _ h]
                    exact s9 (hsc r hr) (by omega) (by omega) (by omega)
                · by_cases h : r = 6 * i + j
                  · rw [h, va_up_self]
                    exact k7
                  · rw [va_up_ne _ _ h]
                    exact ksc r
              · by_cases h : q = i
                · subst h
                  obtain ⟨eD, -, o6, hi6a, ho6⟩ := hA
                  rw [va_up_self]
                  refine ⟨?_, h6, o6, fun z hz => ?_, ho6⟩
                  · rw [rdI_push (b := 6 * q) (p := pushL T) (by rw [hb7, ← em]), eD]
                  · by_cases h : z = j
                    · rw [h, va_up_self]
                      omega
                    · rw [va_up_ne _ _ (by omega)]
                      exact hi6a z hz
                · rw [va_up_ne _ _ h]
                  exact rdA_cg (A q hq) rfl rfl rfl rfl (fun r h1 h2 => ⟨fun _ _ => rfl, rfl, rfl, va_up_ne _ _ (by omega), rfl, rfl, va_up_ne _ _ (by omega), rfl⟩)
            · exact absurd hc105 (by decide)
      · exact absurd hc30 (by decide)
