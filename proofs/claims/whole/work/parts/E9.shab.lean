/-! THE REFERENCE: a block of SHA -/
theorem be4_raw {a b c e : Nat} (ha : a < 256) (hb : b < 256) (hc : c < 256) (he : e < 256) : (((nI a <<< (nI 24 &&& 31)) ||| (nI b <<< (nI 16 &&& 31))) ||| (nI c <<< (nI 8 &&& 31))) ||| nI e = nI (a * 16777216 + b * 65536 + c * 256 + e) := by
  rw [pk_shlN (nI 24 &&& 31) 24 (by decide) (by omega), pk_shlN (nI 16 &&& 31) 16 (by decide) (by omega), pk_shlN (nI 8 &&& 31) 8 (by decide) (by omega)]
  rw [ks_orN (k := 24) ⟨a, by omega⟩ (by omega), ks_orN (k := 16) ⟨a * 256 + b, by omega⟩ (by omega), ks_orN (k := 8) ⟨a * 65536 + b * 256 + c, by omega⟩ (by omega)]
theorem tn_s0 (x : Int32) : (tnI x (nI 25) ^^^ tnI x (nI 14)) ^^^ ks_ur x (nI 3) = sh_s0 x := by
  unfold tnI sh_s0
  rw [Int32.or_comm (ks_sl x (nI 25)), Int32.or_comm (ks_sl x (nI 14))]
  rfl
theorem tn_s1 (x : Int32) : (tnI x (nI 15) ^^^ tnI x (nI 13)) ^^^ ks_ur x (nI 10) = sh_s1 x := by
  unfold tnI sh_s1
  rw [Int32.or_comm (ks_sl x (nI 15)), Int32.or_comm (ks_sl x (nI 13))]
  rfl
theorem tn_S1 (x : Int32) : (tnI x (nI 26) ^^^ tnI x (nI 21)) ^^^ tnI x (nI 7) = sh_S1 x := by
  unfold tnI sh_S1
  rw [Int32.or_comm (ks_sl x (nI 26)), Int32.or_comm (ks_sl x (nI 21)), Int32.or_comm (ks_sl x (nI 7))]
  rfl
theorem tn_S0 (x : Int32) : (tnI x (nI 30) ^^^ tnI x (nI 19)) ^^^ tnI x (nI 10) = sh_S0 x := by
  unfold tnI sh_S0
  rw [Int32.or_comm (ks_sl x (nI 30)), Int32.or_comm (ks_sl x (nI 19)), Int32.or_comm (ks_sl x (nI 10))]
  rfl
set_option maxRecDepth 100000 in
set_option maxHeartbeats 3200000 in
theorem c_md_shaBlock {l : Launch} {G : ks_G} {d : Nat} {S : ks_S} {V : Nat → Value} {y N b : Nat} {g : Nat → Nat} {F f v0 : Nat → Int32} (hO : S.2.2 290 = some (rfE V)) (hy : S.2.2 y = some (kB N g)) (kg : kO g) (hb : b + 64 ≤ N) (hN : N < 2 ^ 28) (h292 : S.2.2 292 = some (kI 8 F)) (h293 : S.2.2 293 = some (kI 64 f)) (h295 : S.2.2 295 = some (kI 64 sh_K)) (h299 : S.2.2 299 = some (kI 8 v0)) (hyn : y ≠ 292 ∧ y ≠ 293 ∧ y ≠ 299 ∧ y ≠ 290) : ks_P l G yX16_shaBlock mX16_shaBlock (d + 1) [.ref 290, .ref y, .int (nI b)] S (fun z S' => z = none ∧ ks_up S S' [292, 293, 299] ∧ (∃ f, S'.2.2 293 = some (kI 64 f)) ∧ (∃ f, S'.2.2 299 = some (kI 8 f)) ∧ ∃ F', S'.2.2 292 = some (kI 8 F') ∧ ∀ x, x < 8 → F' x = sh_blk F g b x) := by
  have nn : ∀ a, a ∉ ([293] : List Nat) ↔ a ≠ 293 := fun a => by rw [List.mem_singleton]
  have l5 : ∀ (S1 : ks_S) (f1 v1 : Nat → Int32), ks_up S S1 [293, 299] → S1.2.2 293 = some (kI 64 f1) → S1.2.2 299 = some (kI 8 v1) → sh_t v1 = sh_rd sh_K (sh_ext (sh_B g b) 48) (sh_t F) 64 → ks_X l G mX16_shaBlock (d + 1) 448 [(0, .ref 290), (1, .ref y), (2, .int (nI b))] [] S1 (fun z S' => z = none ∧ ks_up S S' [292, 293, 299] ∧ (∃ f, S'.2.2 293 = some (kI 64 f)) ∧ (∃ f, S'.2.2 299 = some (kI 8 f)) ∧ ∃ F', S'.2.2 292 = some (kI 8 F') ∧ ∀ x, x < 8 → F' x = sh_blk F g b x) := by
    intro S1 f1 v1 hu e1 ev hv
    have o1 := hu.at hO (by decide)
    have es := hu.at h292 (by decide)
    refine ks_iconst (x := nI 0) dX16_shaBlock_448 (by decide) rfl ?_
    refine ks_istore_n dX16_shaBlock_449 (by decide) rfl ?_
    refine ks_sub [(3, _), (0, _), (1, _), (2, _)] rfl ?_
    refine ks_iload_n dX16_shaBlock_450 rfl rfl ?_
    refine ks_bipush (x := nI 8) dX16_shaBlock_451 (by decide) rfl ?_
    refine ks_icmp_geN (tgt := 477) (by decide) (by decide) dX16_shaBlock_453 (by decide) rfl (fun h => absurd h (by decide)) (fun _ => ?_)
    refine ks_aload_n dX16_shaBlock_456 rfl rfl ?_
    refine ks_getf (T := TX16) (kf := 1) kx_2369 rfl in_X16 cl_X16 (by decide) o1 rfl dX16_shaBlock_457 rfl ?_
    refine ks_iload_n dX16_shaBlock_460 rfl rfl ?_
    refine ks_dup2_11 dX16_shaBlock_461 rfl rfl rfl ?_
    refine ks_ialdN (i := 0) es rfl (by decide) (by decide) dX16_shaBlock_462 rfl ?_
    refine ks_aload_n dX16_shaBlock_463 rfl rfl ?_
    refine ks_getf (T := TX16) (kf := 8) kx_2376 rfl in_X16 cl_X16 (by decide) o1 rfl dX16_shaBlock_464 rfl ?_
    refine ks_iload_n dX16_shaBlock_467 rfl rfl ?_
    refine ks_ialdN (i := 0) ev rfl (by decide) (by decide) dX16_shaBlock_468 rfl ?_
    refine ks_iadd dX16_shaBlock_469 rfl ?_
    refine ks_iastN (i := 0) (by decide) es rfl (by decide) (by decide) dX16_shaBlock_470 rfl ?_
    refine ks_incN (c := 1) (e := 1) dX16_shaBlock_471 rfl (by decide) rfl (by decide) rfl ?_
    refine ks_sub [(3, _), (0, _), (1, _), (2, _)] rfl ?_
    refine ks_goto (tgt := 450) dX16_shaBlock_474 (by decide) ?_
    refine ks_iload_n dX16_shaBlock_450 rfl rfl ?_
    refine ks_bipush (x := nI 8) dX16_shaBlock_451 (by decide) rfl ?_
    refine ks_icmp_geN (tgt := 477) (by decide) (by decide) dX16_shaBlock_453 (by decide) rfl (fun h => absurd h (by decide)) (fun _ => ?_)
    refine ks_aload_n dX16_shaBlock_456 rfl rfl ?_
    refine ks_getf (T := TX16) (kf := 1) kx_2369 rfl in_X16 cl_X16 (by decide) ((ks_set_ne _ _ (by decide)).trans o1) rfl dX16_shaBlock_457 rfl ?_
    refine ks_iload_n dX16_shaBlock_460 rfl rfl ?_
    refine ks_dup2_11 dX16_shaBlock_461 rfl rfl rfl ?_
    refine ks_ialdN (i := 1) (ks_set_same _ _ _) rfl (by decide) (by decide) dX16_shaBlock_462 rfl ?_
    refine ks_aload_n dX16_shaBlock_463 rfl rfl ?_
    refine ks_getf (T := TX16) (kf := 8) kx_2376 rfl in_X16 cl_X16 (by decide) ((ks_set_ne _ _ (by decide)).trans o1) rfl dX16_shaBlock_464 rfl ?_
    refine ks_iload_n dX16_shaBlock_467 rfl rfl ?_
    refine ks_ialdN (i := 1) ((ks_set_ne _ _ (by decide)).trans ev) rfl (by decide) (by decide) dX16_shaBlock_468 rfl ?_
    refine ks_iadd dX16_shaBlock_469 rfl ?_
    refine ks_iastN (i := 1) (by decide) (ks_set_same _ _ _) rfl (by decide) (by decide) dX16_shaBlock_470 rfl ?_
    refine ks_incN (c := 1) (e := 2) dX16_shaBlock_471 rfl (by decide) rfl (by decide) rfl ?_
    refine ks_sub [(3, _), (0, _), (1, _), (2, _)] rfl ?_
    refine ks_goto (tgt := 450) dX16_shaBlock_474 (by decide) ?_
    refine ks_iload_n dX16_shaBlock_450 rfl rfl ?_
    refine ks_bipush (x := nI 8) dX16_shaBlock_451 (by decide) rfl ?_
    refine ks_icmp_geN (tgt := 477) (by decide) (by decide) dX16_shaBlock_453 (by decide) rfl (fun h => absurd h (by decide)) (fun _ => ?_)
    refine ks_aload_n dX16_shaBlock_456 rfl rfl ?_
    refine ks_getf (T := TX16) (kf := 1) kx_2369 rfl in_X16 cl_X16 (by decide) ((ks_set_ne _ _ (by decide)).trans ((ks_set_ne _ _ (by decide)).trans o1)) rfl dX16_shaBlock_457 rfl ?_
    refine ks_iload_n dX16_shaBlock_460 rfl rfl ?_
    refine ks_dup2_11 dX16_shaBlock_461 rfl rfl rfl ?_
    refine ks_ialdN (i := 2) (ks_set_same _ _ _) rfl (by decide) (by decide) dX16_shaBlock_462 rfl ?_
    refine ks_aload_n dX16_shaBlock_463 rfl rfl ?_
    refine ks_getf (T := TX16) (kf := 8) kx_2376 rfl in_X16 cl_X16 (by decide) ((ks_set_ne _ _ (by decide)).trans ((ks_set_ne _ _ (by decide)).trans o1)) rfl dX16_shaBlock_464 rfl ?_
    refine ks_iload_n dX16_shaBlock_467 rfl rfl ?_
    refine ks_ialdN (i := 2) ((ks_set_ne _ _ (by decide)).trans ((ks_set_ne _ _ (by decide)).trans ev)) rfl (by decide) (by decide) dX16_shaBlock_468 rfl ?_
    refine ks_iadd dX16_shaBlock_469 rfl ?_
    refine ks_iastN (i := 2) (by decide) (ks_set_same _ _ _) rfl (by decide) (by decide) dX16_shaBlock_470 rfl ?_
    refine ks_incN (c := 1) (e := 3) dX16_shaBlock_471 rfl (by decide) rfl (by decide) rfl ?_
    refine ks_sub [(3, _), (0, _), (1, _), (2, _)] rfl ?_
    refine ks_goto (tgt := 450) dX16_shaBlock_474 (by decide) ?_
    refine ks_iload_n dX16_shaBlock_450 rfl rfl ?_
    refine ks_bipush (x := nI 8) dX16_shaBlock_451 (by decide) rfl ?_
    refine ks_icmp_geN (tgt := 477) (by decide) (by decide) dX16_shaBlock_453 (by decide) rfl (fun h => absurd h (by decide)) (fun _ => ?_)
    refine ks_aload_n dX16_shaBlock_456 rfl rfl ?_
    refine ks_getf (T := TX16) (kf := 1) kx_2369 rfl in_X16 cl_X16 (by decide) ((ks_set_ne _ _ (by decide)).trans ((ks_set_ne _ _ (by decide)).trans ((ks_set_ne _ _ (by decide)).trans o1))) rfl dX16_shaBlock_457 rfl ?_
    refine ks_iload_n dX16_shaBlock_460 rfl rfl ?_
    refine ks_dup2_11 dX16_shaBlock_461 rfl rfl rfl ?_
    refine ks_ialdN (i := 3) (ks_set_same _ _ _) rfl (by decide) (by decide) dX16_shaBlock_462 rfl ?_
    refine ks_aload_n dX16_shaBlock_463 rfl rfl ?_
    refine ks_getf (T := TX16) (kf := 8) kx_2376 rfl in_X16 cl_X16 (by decide) ((ks_set_ne _ _ (by decide)).trans ((ks_set_ne _ _ (by decide)).trans ((ks_set_ne _ _ (by decide)).trans o1))) rfl dX16_shaBlock_464 rfl ?_
    refine ks_iload_n dX16_shaBlock_467 rfl rfl ?_
    refine ks_ialdN (i := 3) ((ks_set_ne _ _ (by decide)).trans ((ks_set_ne _ _ (by decide)).trans ((ks_set_ne _ _ (by decide)).trans ev))) rfl (by decide) (by decide) dX16_shaBlock_468 rfl ?_
    refine ks_iadd dX16_shaBlock_469 rfl ?_
    refine ks_iastN (i := 3) (by decide) (ks_set_same _ _ _) rfl (by decide) (by decide) dX16_shaBlock_470 rfl ?_
    refine ks_incN (c := 1) (e := 4) dX16_shaBlock_471 rfl (by decide) rfl (by decide) rfl ?_
    refine ks_sub [(3, _), (0, _), (1, _), (2, _)] rfl ?_
    refine ks_goto (tgt := 450) dX16_shaBlock_474 (by decide) ?_
    refine ks_iload_n dX16_shaBlock_450 rfl rfl ?_
    refine ks_bipush (x := nI 8) dX16_shaBlock_451 (by decide) rfl ?_
    refine ks_icmp_geN (tgt := 477) (by decide) (by decide) dX16_shaBlock_453 (by decide) rfl (fun h => absurd h (by decide)) (fun _ => ?_)
    refine ks_aload_n dX16_shaBlock_456 rfl rfl ?_
    refine ks_getf (T := TX16) (kf := 1) kx_2369 rfl in_X16 cl_X16 (by decide) ((ks_set_ne _ _ (by decide)).trans ((ks_set_ne _ _ (by decide)).trans ((ks_set_ne _ _ (by decide)).trans ((ks_set_ne _ _ (by decide)).trans o1)))) rfl dX16_shaBlock_457 rfl ?_
    refine ks_iload_n dX16_shaBlock_460 rfl rfl ?_
    refine ks_dup2_11 dX16_shaBlock_461 rfl rfl rfl ?_
    refine ks_ialdN (i := 4) (ks_set_same _ _ _) rfl (by decide) (by decide) dX16_shaBlock_462 rfl ?_
    refine ks_aload_n dX16_shaBlock_463 rfl rfl ?_
    refine ks_getf (T := TX16) (kf := 8) kx_2376 rfl in_X16 cl_X16 (by decide) ((ks_set_ne _ _ (by decide)).trans ((ks_set_ne _ _ (by decide)).trans ((ks_set_ne _ _ (by decide)).trans ((ks_set_ne _ _ (by decide)).trans o1)))) rfl dX16_shaBlock_464 rfl ?_
    refine ks_iload_n dX16_shaBlock_467 rfl rfl ?_
    refine ks_ialdN (i := 4) ((ks_set_ne _ _ (by decide)).trans ((ks_set_ne _ _ (by decide)).trans ((ks_set_ne _ _ (by decide)).trans ((ks_set_ne _ _ (by decide)).trans ev)))) rfl (by decide) (by decide) dX16_shaBlock_468 rfl ?_
    refine ks_iadd dX16_shaBlock_469 rfl ?_
    refine ks_iastN (i := 4) (by decide) (ks_set_same _ _ _) rfl (by decide) (by decide) dX16_shaBlock_470 rfl ?_
    refine ks_incN (c := 1) (e := 5) dX16_shaBlock_471 rfl (by decide) rfl (by decide) rfl ?_
    refine ks_sub [(3, _), (0, _), (1, _), (2, _)] rfl ?_
    refine ks_goto (tgt := 450) dX16_shaBlock_474 (by decide) ?_
    refine ks_iload_n dX16_shaBlock_450 rfl rfl ?_
    refine ks_bipush (x := nI 8) dX16_shaBlock_451 (by decide) rfl ?_
    refine ks_icmp_geN (tgt := 477) (by decide) (by decide) dX16_shaBlock_453 (by decide) rfl (fun h => absurd h (by decide)) (fun _ => ?_)
    refine ks_aload_n dX16_shaBlock_456 rfl rfl ?_
    refine ks_getf (T := TX16) (kf := 1) kx_2369 rfl in_X16 cl_X16 (by decide) ((ks_set_ne _ _ (by decide)).trans ((ks_set_ne _ _ (by decide)).trans ((ks_set_ne _ _ (by decide)).trans ((ks_set_ne _ _ (by decide)).trans ((ks_set_ne _ _ (by decide)).trans o1))))) rfl dX16_shaBlock_457 rfl ?_
    refine ks_iload_n dX16_shaBlock_460 rfl rfl ?_
    refine ks_dup2_11 dX16_shaBlock_461 rfl rfl rfl ?_
    refine ks_ialdN (i := 5) (ks_set_same _ _ _) rfl (by decide) (by decide) dX16_shaBlock_462 rfl ?_
    refine ks_aload_n dX16_shaBlock_463 rfl rfl ?_
    refine ks_getf (T := TX16) (kf := 8) kx_2376 rfl in_X16 cl_X16 (by decide) ((ks_set_ne _ _ (by decide)).trans ((ks_set_ne _ _ (by decide)).trans ((ks_set_ne _ _ (by decide)).trans ((ks_set_ne _ _ (by decide)).trans ((ks_set_ne _ _ (by decide)).trans o1))))) rfl dX16_shaBlock_464 rfl ?_
    refine ks_iload_n dX16_shaBlock_467 rfl rfl ?_
    refine ks_ialdN (i := 5) ((ks_set_ne _ _ (by decide)).trans ((ks_set_ne _ _ (by decide)).trans ((ks_set_ne _ _ (by decide)).trans ((ks_set_ne _ _ (by decide)).trans ((ks_set_ne _ _ (by decide)).trans ev))))) rfl (by decide) (by decide) dX16_shaBlock_468 rfl ?_
    refine ks_iadd dX16_shaBlock_469 rfl ?_
    refine ks_iastN (i := 5) (by decide) (ks_set_same _ _ _) rfl (by decide) (by decide) dX16_shaBlock_470 rfl ?_
    refine ks_incN (c := 1) (e := 6) dX16_shaBlock_471 rfl (by decide) rfl (by decide) rfl ?_
    refine ks_sub [(3, _), (0, _), (1, _), (2, _)] rfl ?_
    refine ks_goto (tgt := 450) dX16_shaBlock_474 (by decide) ?_
    refine ks_iload_n dX16_shaBlock_450 rfl rfl ?_
    refine ks_bipush (x := nI 8) dX16_shaBlock_451 (by decide) rfl ?_
    refine ks_icmp_geN (tgt := 477) (by decide) (by decide) dX16_shaBlock_453 (by decide) rfl (fun h => absurd h (by decide)) (fun _ => ?_)
    refine ks_aload_n dX16_shaBlock_456 rfl rfl ?_
    refine ks_getf (T := TX16) (kf := 1) kx_2369 rfl in_X16 cl_X16 (by decide) ((ks_set_ne _ _ (by decide)).trans ((ks_set_ne _ _ (by decide)).trans ((ks_set_ne _ _ (by decide)).trans ((ks_set_ne _ _ (by decide)).trans ((ks_set_ne _ _ (by decide)).trans ((ks_set_ne _ _ (by decide)).trans o1)))))) rfl dX16_shaBlock_457 rfl ?_
    refine ks_iload_n dX16_shaBlock_460 rfl rfl ?_
    refine ks_dup2_11 dX16_shaBlock_461 rfl rfl rfl ?_
    refine ks_ialdN (i := 6) (ks_set_same _ _ _) rfl (by decide) (by decide) dX16_shaBlock_462 rfl ?_
    refine ks_aload_n dX16_shaBlock_463 rfl rfl ?_
    refine ks_getf (T := TX16) (kf := 8) kx_2376 rfl in_X16 cl_X16 (by decide) ((ks_set_ne _ _ (by decide)).trans ((ks_set_ne _ _ (by decide)).trans ((ks_set_ne _ _ (by decide)).trans ((ks_set_ne _ _ (by decide)).trans ((ks_set_ne _ _ (by decide)).trans ((ks_set_ne _ _ (by decide)).trans o1)))))) rfl dX16_shaBlock_464 rfl ?_
    refine ks_iload_n dX16_shaBlock_467 rfl rfl ?_
    refine ks_ialdN (i := 6) ((ks_set_ne _ _ (by decide)).trans ((ks_set_ne _ _ (by decide)).trans ((ks_set_ne _ _ (by decide)).trans ((ks_set_ne _ _ (by decide)).trans ((ks_set_ne _ _ (by decide)).trans ((ks_set_ne _ _ (by decide)).trans ev)))))) rfl (by decide) (by decide) dX16_shaBlock_468 rfl ?_
    refine ks_iadd dX16_shaBlock_469 rfl ?_
    refine ks_iastN (i := 6) (by decide) (ks_set_same _ _ _) rfl (by decide) (by decide) dX16_shaBlock_470 rfl ?_
    refine ks_incN (c := 1) (e := 7) dX16_shaBlock_471 rfl (by decide) rfl (by decide) rfl ?_
    refine ks_sub [(3, _), (0, _), (1, _), (2, _)] rfl ?_
    refine ks_goto (tgt := 450) dX16_shaBlock_474 (by decide) ?_
    refine ks_iload_n dX16_shaBlock_450 rfl rfl ?_
    refine ks_bipush (x := nI 8) dX16_shaBlock_451 (by decide) rfl ?_
    refine ks_icmp_geN (tgt := 477) (by decide) (by decide) dX16_shaBlock_453 (by decide) rfl (fun h => absurd h (by decide)) (fun _ => ?_)
    refine ks_aload_n dX16_shaBlock_456 rfl rfl ?_
    refine ks_getf (T := TX16) (kf := 1) kx_2369 rfl in_X16 cl_X16 (by decide) ((ks_set_ne _ _ (by decide)).trans ((ks_set_ne _ _ (by decide)).trans ((ks_set_ne _ _ (by decide)).trans ((ks_set_ne _ _ (by decide)).trans ((ks_set_ne _ _ (by decide)).trans ((ks_set_ne _ _ (by decide)).trans ((ks_set_ne _ _ (by decide)).trans o1))))))) rfl dX16_shaBlock_457 rfl ?_
    refine ks_iload_n dX16_shaBlock_460 rfl rfl ?_
    refine ks_dup2_11 dX16_shaBlock_461 rfl rfl rfl ?_
    refine ks_ialdN (i := 7) (ks_set_same _ _ _) rfl (by decide) (by decide) dX16_shaBlock_462 rfl ?_
    refine ks_aload_n dX16_shaBlock_463 rfl rfl ?_
    refine ks_getf (T := TX16) (kf := 8) kx_2376 rfl in_X16 cl_X16 (by decide) ((ks_set_ne _ _ (by decide)).trans ((ks_set_ne _ _ (by decide)).trans ((ks_set_ne _ _ (by decide)).trans ((ks_set_ne _ _ (by decide)).trans ((ks_set_ne _ _ (by decide)).trans ((ks_set_ne _ _ (by decide)).trans ((ks_set_ne _ _ (by decide)).trans o1))))))) rfl dX16_shaBlock_464 rfl ?_
    refine ks_iload_n dX16_shaBlock_467 rfl rfl ?_
    refine ks_ialdN (i := 7) ((ks_set_ne _ _ (by decide)).trans ((ks_set_ne _ _ (by decide)).trans ((ks_set_ne _ _ (by decide)).trans ((ks_set_ne _ _ (by decide)).trans ((ks_set_ne _ _ (by decide)).trans ((ks_set_ne _ _ (by decide)).trans ((ks_set_ne _ _ (by decide)).trans ev))))))) rfl (by decide) (by decide) dX16_shaBlock_468 rfl ?_
    refine ks_iadd dX16_shaBlock_469 rfl ?_
    refine ks_iastN (i := 7) (by decide) (ks_set_same _ _ _) rfl (by decide) (by decide) dX16_shaBlock_470 rfl ?_
    refine ks_incN (c := 1) (e := 8) dX16_shaBlock_471 rfl (by decide) rfl (by decide) rfl ?_
    refine ks_sub [(3, _), (0, _), (1, _), (2, _)] rfl ?_
    refine ks_goto (tgt := 450) dX16_shaBlock_474 (by decide) ?_
    refine ks_iload_n dX16_shaBlock_450 rfl rfl ?_
    refine ks_bipush (x := nI 8) dX16_shaBlock_451 (by decide) rfl ?_
    refine ks_icmp_geN (tgt := 477) (by decide) (by decide) dX16_shaBlock_453 (by decide) rfl (fun _ => ?_) (fun h => absurd h (by decide))
    refine ks_ret rfl dX16_shaBlock_477 ?_
    have hb8 : ∀ x, x < 8 → va_up (va_up (va_up (va_up (va_up (va_up (va_up (va_up F 0 (F 0 + v1 0)) 1 (F 1 + v1 1)) 2 (F 2 + v1 2)) 3 (F 3 + v1 3)) 4 (F 4 + v1 4)) 5 (F 5 + v1 5)) 6 (F 6 + v1 6)) 7 (F 7 + v1 7) x = sh_blk F g b x := by
      intro x hx
      unfold sh_blk
      rw [← hv]
      rfl
    refine ⟨rfl, (hu.mono (by decide)).trans ?_, ⟨f1, ?_⟩, ⟨v1, ?_⟩, _, ks_set_same _ _ _, hb8⟩
    · exact (((((((ks_up_set _ _ (by decide)).trans (ks_up_set _ _ (by decide))).trans (ks_up_set _ _ (by decide))).trans (ks_up_set _ _ (by decide))).trans (ks_up_set _ _ (by decide))).trans (ks_up_set _ _ (by decide))).trans (ks_up_set _ _ (by decide))).trans (ks_up_set _ _ (by decide))
    · exact ((ks_set_ne _ _ (by decide)).trans ((ks_set_ne _ _ (by decide)).trans ((ks_set_ne _ _ (by decide)).trans ((ks_set_ne _ _ (by decide)).trans ((ks_set_ne _ _ (by decide)).trans ((ks_set_ne _ _ (by decide)).trans ((ks_set_ne _ _ (by decide)).trans ((ks_set_ne _ _ (by decide)).trans e1))))))))
    · exact ((ks_set_ne _ _ (by decide)).trans ((ks_set_ne _ _ (by decide)).trans ((ks_set_ne _ _ (by decide)).trans ((ks_set_ne _ _ (by decide)).trans ((ks_set_ne _ _ (by decide)).trans ((ks_set_ne _ _ (by decide)).trans ((ks_set_ne _ _ (by decide)).trans ((ks_set_ne _ _ (by decide)).trans ev))))))))
  have l4 : ∀ (u i : Nat) (S1 : ks_S) (f1 v1 : Nat → Int32), i + u = 64 → ks_up S S1 [293, 299] → S1.2.2 293 = some (kI 64 f1) → S1.2.2 299 = some (kI 8 v1) → (∀ j, j < 64 → f1 j = sh_ext (sh_B g b) 48 j) → sh_t v1 = sh_rd sh_K (sh_ext (sh_B g b) 48) (sh_t F) i → ks_X l G mX16_shaBlock (d + 1) 214 [(0, .ref 290), (1, .ref y), (2, .int (nI b)), (3, .int (nI i))] [] S1 (fun z S' => z = none ∧ ks_up S S' [292, 293, 299] ∧ (∃ f, S'.2.2 293 = some (kI 64 f)) ∧ (∃ f, S'.2.2 299 = some (kI 8 f)) ∧ ∃ F', S'.2.2 292 = some (kI 8 F') ∧ ∀ x, x < 8 → F' x = sh_blk F g b x) := by
    intro u
    induction u with
    | zero =>
      intro i S1 f1 v1 hi hu e1 ev hf hv
      have o1 := hu.at hO (by decide)
      have ek := hu.at h295 (by decide)
      obtain rfl : i = 64 := hi
      refine ks_iload_n dX16_shaBlock_214 rfl rfl ?_
      refine ks_bipush (x := nI 64) dX16_shaBlock_215 (by decide) rfl ?_
      refine ks_icmp_geN (tgt := 448) (by decide) (by decide) dX16_shaBlock_217 (by decide) rfl (fun _ => ?_) (fun h => absurd h (by decide))
      exact ks_sub [(0, _), (1, _), (2, _)] rfl (l5 S1 f1 v1 hu e1 ev hv)
    | succ u ih =>
      intro i S1 f1 v1 hi hu e1 ev hf hv
      have o1 := hu.at hO (by decide)
      have ek := hu.at h295 (by decide)
      have i64 : i < 64 := by omega
      refine ks_iload_n dX16_shaBlock_214 rfl rfl ?_
      refine ks_bipush (x := nI 64) dX16_shaBlock_215 (by decide) rfl ?_
      refine ks_icmp_geN (tgt := 448) (by omega) (by decide) dX16_shaBlock_217 (by decide) rfl (fun h1 => absurd h1 (by omega)) (fun h1 => ?_)
      refine ks_aload_n dX16_shaBlock_220 rfl rfl ?_
      refine ks_getf (T := TX16) (kf := 8) kx_2376 rfl in_X16 cl_X16 (by decide) o1 rfl dX16_shaBlock_221 rfl ?_
      refine ks_bipush (x := nI 7) dX16_shaBlock_224 (by decide) rfl ?_
      refine ks_ialdN (i := 7) ev rfl (by decide) (by decide) dX16_shaBlock_226 rfl ?_
      refine ks_aload_n dX16_shaBlock_227 rfl rfl ?_
      refine ks_getf (T := TX16) (kf := 8) kx_2376 rfl in_X16 cl_X16 (by decide) o1 rfl dX16_shaBlock_228 rfl ?_
      refine ks_iconst (x := nI 4) dX16_shaBlock_231 (by decide) rfl ?_
      refine ks_ialdN (i := 4) ev rfl (by decide) (by decide) dX16_shaBlock_232 rfl ?_
      refine ks_bipush (x := nI 26) dX16_shaBlock_233 (by decide) rfl ?_
      refine ks_callS (n := 2) (M' := mX16_turn) (c_md_turn (d := d)) kx_2000 kx_2001 kx_30 kx_2002 (by decide +kernel) rfl (by decide) (Nat.le_of_ble_eq_true rfl) rfl dX16_shaBlock_235 rfl (fun z11 T11 y11 => ?_)
      obtain ⟨rfl, hT11⟩ := y11
      obtain rfl := hT11.symm
      refine ks_aload_n dX16_shaBlock_238 rfl rfl ?_
      refine ks_getf (T := TX16) (kf := 8) kx_2376 rfl in_X16 cl_X16 (by decide) o1 rfl dX16_shaBlock_239 rfl ?_
      refine ks_iconst (x := nI 4) dX16_shaBlock_242 (by decide) rfl ?_
      refine ks_ialdN (i := 4) ev rfl (by decide) (by decide) dX16_shaBlock_243 rfl ?_
      refine ks_bipush (x := nI 21) dX16_shaBlock_244 (by decide) rfl ?_
      refine ks_callS (n := 2) (M' := mX16_turn) (c_md_turn (d := d)) kx_2000 kx_2001 kx_30 kx_2002 (by decide +kernel) rfl (by decide) (Nat.le_of_ble_eq_true rfl) rfl dX16_shaBlock_246 rfl (fun z12 T12 y12 => ?_)
      obtain ⟨rfl, hT12⟩ := y12
      obtain rfl := hT12.symm
      refine ks_ixor dX16_shaBlock_249 rfl ?_
      refine ks_aload_n dX16_shaBlock_250 rfl rfl ?_
      refine ks_getf (T := TX16) (kf := 8) kx_2376 rfl in_X16 cl_X16 (by decide) o1 rfl dX16_shaBlock_251 rfl ?_
      refine ks_iconst (x := nI 4) dX16_shaBlock_254 (by decide) rfl ?_
      refine ks_ialdN (i := 4) ev rfl (by decide) (by decide) dX16_shaBlock_255 rfl ?_
      refine ks_bipush (x := nI 7) dX16_shaBlock_256 (by decide) rfl ?_
      refine ks_callS (n := 2) (M' := mX16_turn) (c_md_turn (d := d)) kx_2000 kx_2001 kx_30 kx_2002 (by decide +kernel) rfl (by decide) (Nat.le_of_ble_eq_true rfl) rfl dX16_shaBlock_258 rfl (fun z13 T13 y13 => ?_)
      obtain ⟨rfl, hT13⟩ := y13
      obtain rfl := hT13.symm
      refine ks_ixor dX16_shaBlock_261 rfl ?_
      refine ks_iadd dX16_shaBlock_262 rfl ?_
      refine ks_aload_n dX16_shaBlock_263 rfl rfl ?_
      refine ks_getf (T := TX16) (kf := 8) kx_2376 rfl in_X16 cl_X16 (by decide) o1 rfl dX16_shaBlock_264 rfl ?_
      refine ks_iconst (x := nI 4) dX16_shaBlock_267 (by decide) rfl ?_
      refine ks_ialdN (i := 4) ev rfl (by decide) (by decide) dX16_shaBlock_268 rfl ?_
      refine ks_aload_n dX16_shaBlock_269 rfl rfl ?_
      refine ks_getf (T := TX16) (kf := 8) kx_2376 rfl in_X16 cl_X16 (by decide) o1 rfl dX16_shaBlock_270 rfl ?_
      refine ks_iconst (x := nI 5) dX16_shaBlock_273 (by decide) rfl ?_
      refine ks_ialdN (i := 5) ev rfl (by decide) (by decide) dX16_shaBlock_274 rfl ?_
      refine ks_iand dX16_shaBlock_275 rfl ?_
      refine ks_aload_n dX16_shaBlock_276 rfl rfl ?_
      refine ks_getf (T := TX16) (kf := 8) kx_2376 rfl in_X16 cl_X16 (by decide) o1 rfl dX16_shaBlock_277 rfl ?_
      refine ks_iconst (x := nI 4) dX16_shaBlock_280 (by decide) rfl ?_
      refine ks_ialdN (i := 4) ev rfl (by decide) (by decide) dX16_shaBlock_281 rfl ?_
      refine ks_iconst (x := (-1)) dX16_shaBlock_282 (by decide) rfl ?_
      refine ks_ixor dX16_shaBlock_283 rfl ?_
      refine ks_aload_n dX16_shaBlock_284 rfl rfl ?_
      refine ks_getf (T := TX16) (kf := 8) kx_2376 rfl in_X16 cl_X16 (by decide) o1 rfl dX16_shaBlock_285 rfl ?_
      refine ks_bipush (x := nI 6) dX16_shaBlock_288 (by decide) rfl ?_
      refine ks_ialdN (i := 6) ev rfl (by decide) (by decide) dX16_shaBlock_290 rfl ?_
      refine ks_iand dX16_shaBlock_291 rfl ?_
      refine ks_ixor dX16_shaBlock_292 rfl ?_
      refine ks_iadd dX16_shaBlock_293 rfl ?_
      refine ks_aload_n dX16_shaBlock_294 rfl rfl ?_
      refine ks_getf (T := TX16) (kf := 4) kx_2372 rfl in_X16 cl_X16 (by decide) o1 rfl dX16_shaBlock_295 rfl ?_
      refine ks_iload_n dX16_shaBlock_298 rfl rfl ?_
      refine ks_ialdN (i := i) ek rfl (by omega) (by decide) dX16_shaBlock_299 rfl ?_
      refine ks_iadd dX16_shaBlock_300 rfl ?_
      refine ks_aload_n dX16_shaBlock_301 rfl rfl ?_
      refine ks_getf (T := TX16) (kf := 2) kx_2370 rfl in_X16 cl_X16 (by decide) o1 rfl dX16_shaBlock_302 rfl ?_
      refine ks_iload_n dX16_shaBlock_305 rfl rfl ?_
      refine ks_ialdN (i := i) e1 rfl (by omega) (by decide) dX16_shaBlock_306 rfl ?_
      refine ks_iadd dX16_shaBlock_307 rfl ?_
      refine ks_ti (y := sh_x (sh_t v1) (sh_K i) (sh_ext (sh_B g b) 48 i)) (by rw [← hf i i64]; exact congrArg (fun q => v1 7 + q + ((v1 4 &&& v1 5) ^^^ ((v1 4 ^^^ (-1)) &&& v1 6)) + sh_K i + f1 i) (tn_S1 (v1 4))) ?_
      refine ks_istore dX16_shaBlock_308 (by decide) rfl ?_
      refine ks_sub [(4, _), (0, _), (1, _), (2, _), (3, _)] rfl ?_
      refine ks_aload_n dX16_shaBlock_310 rfl rfl ?_
      refine ks_getf (T := TX16) (kf := 8) kx_2376 rfl in_X16 cl_X16 (by decide) o1 rfl dX16_shaBlock_311 rfl ?_
      refine ks_iconst (x := nI 0) dX16_shaBlock_314 (by decide) rfl ?_
      refine ks_ialdN (i := 0) ev rfl (by decide) (by decide) dX16_shaBlock_315 rfl ?_
      refine ks_bipush (x := nI 30) dX16_shaBlock_316 (by decide) rfl ?_
      refine ks_callS (n := 2) (M' := mX16_turn) (c_md_turn (d := d)) kx_2000 kx_2001 kx_30 kx_2002 (by decide +kernel) rfl (by decide) (Nat.le_of_ble_eq_true rfl) rfl dX16_shaBlock_318 rfl (fun z14 T14 y14 => ?_)
      obtain ⟨rfl, hT14⟩ := y14
      obtain rfl := hT14.symm
      refine ks_aload_n dX16_shaBlock_321 rfl rfl ?_
      refine ks_getf (T := TX16) (kf := 8) kx_2376 rfl in_X16 cl_X16 (by decide) o1 rfl dX16_shaBlock_322 rfl ?_
      refine ks_iconst (x := nI 0) dX16_shaBlock_325 (by decide) rfl ?_
      refine ks_ialdN (i := 0) ev rfl (by decide) (by decide) dX16_shaBlock_326 rfl ?_
      refine ks_bipush (x := nI 19) dX16_shaBlock_327 (by decide) rfl ?_
      refine ks_callS (n := 2) (M' := mX16_turn) (c_md_turn (d := d)) kx_2000 kx_2001 kx_30 kx_2002 (by decide +kernel) rfl (by decide) (Nat.le_of_ble_eq_true rfl) rfl dX16_shaBlock_329 rfl (fun z15 T15 y15 => ?_)
      obtain ⟨rfl, hT15⟩ := y15
      obtain rfl := hT15.symm
      refine ks_ixor dX16_shaBlock_332 rfl ?_
      refine ks_aload_n dX16_shaBlock_333 rfl rfl ?_
      refine ks_getf (T := TX16) (kf := 8) kx_2376 rfl in_X16 cl_X16 (by decide) o1 rfl dX16_shaBlock_334 rfl ?_
      refine ks_iconst (x := nI 0) dX16_shaBlock_337 (by decide) rfl ?_
      refine ks_ialdN (i := 0) ev rfl (by decide) (by decide) dX16_shaBlock_338 rfl ?_
      refine ks_bipush (x := nI 10) dX16_shaBlock_339 (by decide) rfl ?_
      refine ks_callS (n := 2) (M' := mX16_turn) (c_md_turn (d := d)) kx_2000 kx_2001 kx_30 kx_2002 (by decide +kernel) rfl (by decide) (Nat.le_of_ble_eq_true rfl) rfl dX16_shaBlock_341 rfl (fun z16 T16 y16 => ?_)
      obtain ⟨rfl, hT16⟩ := y16
      obtain rfl := hT16.symm
      refine ks_ixor dX16_shaBlock_344 rfl ?_
      refine ks_aload_n dX16_shaBlock_345 rfl rfl ?_
      refine ks_getf (T := TX16) (kf := 8) kx_2376 rfl in_X16 cl_X16 (by decide) o1 rfl dX16_shaBlock_346 rfl ?_
      refine ks_iconst (x := nI 0) dX16_shaBlock_349 (by decide) rfl ?_
      refine ks_ialdN (i := 0) ev rfl (by decide) (by decide) dX16_shaBlock_350 rfl ?_
      refine ks_aload_n dX16_shaBlock_351 rfl rfl ?_
      refine ks_getf (T := TX16) (kf := 8) kx_2376 rfl in_X16 cl_X16 (by decide) o1 rfl dX16_shaBlock_352 rfl ?_
      refine ks_iconst (x := nI 1) dX16_shaBlock_355 (by decide) rfl ?_
      refine ks_ialdN (i := 1) ev rfl (by decide) (by decide) dX16_shaBlock_356 rfl ?_
      refine ks_iand dX16_shaBlock_357 rfl ?_
      refine ks_aload_n dX16_shaBlock_358 rfl rfl ?_
      refine ks_getf (T := TX16) (kf := 8) kx_2376 rfl in_X16 cl_X16 (by decide) o1 rfl dX16_shaBlock_359 rfl ?_
      refine ks_iconst (x := nI 0) dX16_shaBlock_362 (by decide) rfl ?_
      refine ks_ialdN (i := 0) ev rfl (by decide) (by decide) dX16_shaBlock_363 rfl ?_
      refine ks_aload_n dX16_shaBlock_364 rfl rfl ?_
      refine ks_getf (T := TX16) (kf := 8) kx_2376 rfl in_X16 cl_X16 (by decide) o1 rfl dX16_shaBlock_365 rfl ?_
      refine ks_iconst (x := nI 2) dX16_shaBlock_368 (by decide) rfl ?_
      refine ks_ialdN (i := 2) ev rfl (by decide) (by decide) dX16_shaBlock_369 rfl ?_
      refine ks_iand dX16_shaBlock_370 rfl ?_
      refine ks_ixor dX16_shaBlock_371 rfl ?_
      refine ks_aload_n dX16_shaBlock_372 rfl rfl ?_
      refine ks_getf (T := TX16) (kf := 8) kx_2376 rfl in_X16 cl_X16 (by decide) o1 rfl dX16_shaBlock_373 rfl ?_
      refine ks_iconst (x := nI 1) dX16_shaBlock_376 (by decide) rfl ?_
      refine ks_ialdN (i := 1) ev rfl (by decide) (by decide) dX16_shaBlock_377 rfl ?_
      refine ks_aload_n dX16_shaBlock_378 rfl rfl ?_
      refine ks_getf (T := TX16) (kf := 8) kx_2376 rfl in_X16 cl_X16 (by decide) o1 rfl dX16_shaBlock_379 rfl ?_
      refine ks_iconst (x := nI 2) dX16_shaBlock_382 (by decide) rfl ?_
      refine ks_ialdN (i := 2) ev rfl (by decide) (by decide) dX16_shaBlock_383 rfl ?_
      refine ks_iand dX16_shaBlock_384 rfl ?_
      refine ks_ixor dX16_shaBlock_385 rfl ?_
      refine ks_iadd dX16_shaBlock_386 rfl ?_
      refine ks_ti (y := sh_y (sh_t v1)) (congrArg (fun q => q + (((v1 0 &&& v1 1) ^^^ (v1 0 &&& v1 2)) ^^^ (v1 1 &&& v1 2))) (tn_S0 (v1 0))) ?_
      refine ks_istore dX16_shaBlock_387 (by decide) rfl ?_
      refine ks_sub [(5, _), (0, _), (1, _), (2, _), (3, _), (4, _)] rfl ?_
      refine ks_bipush (x := nI 7) dX16_shaBlock_389 (by decide) rfl ?_
      refine ks_istore dX16_shaBlock_391 (by decide) rfl ?_
      refine ks_sub [(6, _), (0, _), (1, _), (2, _), (3, _), (4, _), (5, _)] rfl ?_
      refine ks_iload dX16_shaBlock_393 rfl rfl ?_
      refine ks_if_leN (tgt := 420) (by decide) dX16_shaBlock_395 (by decide) rfl (fun h => absurd h (by decide)) (fun _ => ?_)
      refine ks_aload_n dX16_shaBlock_398 rfl rfl ?_
      refine ks_getf (T := TX16) (kf := 8) kx_2376 rfl in_X16 cl_X16 (by decide) o1 rfl dX16_shaBlock_399 rfl ?_
      refine ks_iload dX16_shaBlock_402 rfl rfl ?_
      refine ks_aload_n dX16_shaBlock_404 rfl rfl ?_
      refine ks_getf (T := TX16) (kf := 8) kx_2376 rfl in_X16 cl_X16 (by decide) o1 rfl dX16_shaBlock_405 rfl ?_
      refine ks_iload dX16_shaBlock_408 rfl rfl ?_
      refine ks_iconst (x := nI 1) dX16_shaBlock_410 (by decide) rfl ?_
      refine ks_subN (by omega) dX16_shaBlock_411 rfl ?_
      refine ks_ialdN (i := 7 - 1) ev rfl (by omega) (by decide) dX16_shaBlock_412 rfl ?_
      refine ks_iastN (i := 7) (by decide) ev rfl (by decide) (by decide) dX16_shaBlock_413 rfl ?_
      refine ks_decN (e := 7 - 1) dX16_shaBlock_414 rfl (by decide) (by omega) (by decide) rfl ?_
      refine ks_sub [(6, _), (0, _), (1, _), (2, _), (3, _), (4, _), (5, _)] rfl ?_
      refine ks_goto (tgt := 393) dX16_shaBlock_417 (by decide) ?_
      refine ks_iload dX16_shaBlock_393 rfl rfl ?_
      refine ks_if_leN (tgt := 420) (by decide) dX16_shaBlock_395 (by decide) rfl (fun h => absurd h (by decide)) (fun _ => ?_)
      refine ks_aload_n dX16_shaBlock_398 rfl rfl ?_
      refine ks_getf (T := TX16) (kf := 8) kx_2376 rfl in_X16 cl_X16 (by decide) ((ks_set_ne _ _ (by decide)).trans o1) rfl dX16_shaBlock_399 rfl ?_
      refine ks_iload dX16_shaBlock_402 rfl rfl ?_
      refine ks_aload_n dX16_shaBlock_404 rfl rfl ?_
      refine ks_getf (T := TX16) (kf := 8) kx_2376 rfl in_X16 cl_X16 (by decide) ((ks_set_ne _ _ (by decide)).trans o1) rfl dX16_shaBlock_405 rfl ?_
      refine ks_iload dX16_shaBlock_408 rfl rfl ?_
      refine ks_iconst (x := nI 1) dX16_shaBlock_410 (by decide) rfl ?_
      refine ks_subN (by omega) dX16_shaBlock_411 rfl ?_
      refine ks_ialdN (i := 7 - 1 - 1) (ks_set_same _ _ _) rfl (by omega) (by decide) dX16_shaBlock_412 rfl ?_
      refine ks_iastN (i := 7 - 1) (by decide) (ks_set_same _ _ _) rfl (by omega) (by decide) dX16_shaBlock_413 rfl ?_
      refine ks_decN (e := (7 - 1) - 1) dX16_shaBlock_414 rfl (by decide) (by omega) (by decide) rfl ?_
      refine ks_sub [(6, _), (0, _), (1, _), (2, _), (3, _), (4, _), (5, _)] rfl ?_
      refine ks_goto (tgt := 393) dX16_shaBlock_417 (by decide) ?_
      refine ks_iload dX16_shaBlock_393 rfl rfl ?_
      refine ks_if_leN (tgt := 420) (by decide) dX16_shaBlock_395 (by decide) rfl (fun h => absurd h (by decide)) (fun _ => ?_)
      refine ks_aload_n dX16_shaBlock_398 rfl rfl ?_
      refine ks_getf (T := TX16) (kf := 8) kx_2376 rfl in_X16 cl_X16 (by decide) ((ks_set_ne _ _ (by decide)).trans ((ks_set_ne _ _ (by decide)).trans o1)) rfl dX16_shaBlock_399 rfl ?_
      refine ks_iload dX16_shaBlock_402 rfl rfl ?_
      refine ks_aload_n dX16_shaBlock_404 rfl rfl ?_
      refine ks_getf (T := TX16) (kf := 8) kx_2376 rfl in_X16 cl_X16 (by decide) ((ks_set_ne _ _ (by decide)).trans ((ks_set_ne _ _ (by decide)).trans o1)) rfl dX16_shaBlock_405 rfl ?_
      refine ks_iload dX16_shaBlock_408 rfl rfl ?_
      refine ks_iconst (x := nI 1) dX16_shaBlock_410 (by decide) rfl ?_
      refine ks_subN (by omega) dX16_shaBlock_411 rfl ?_
      refine ks_ialdN (i := (7 - 1) - 1 - 1) (ks_set_same _ _ _) rfl (by omega) (by decide) dX16_shaBlock_412 rfl ?_
      refine ks_iastN (i := (7 - 1) - 1) (by decide) (ks_set_same _ _ _) rfl (by omega) (by decide) dX16_shaBlock_413 rfl ?_
      refine ks_decN (e := ((7 - 1) - 1) - 1) dX16_shaBlock_414 rfl (by decide) (by omega) (by decide) rfl ?_
      refine ks_sub [(6, _), (0, _), (1, _), (2, _), (3, _), (4, _), (5, _)] rfl ?_
      refine ks_goto (tgt := 393) dX16_shaBlock_417 (by decide) ?_
      refine ks_iload dX16_shaBlock_393 rfl rfl ?_
      refine ks_if_leN (tgt := 420) (by decide) dX16_shaBlock_395 (by decide) rfl (fun h => absurd h (by decide)) (fun _ => ?_)
      refine ks_aload_n dX16_shaBlock_398 rfl rfl ?_
      refine ks_getf (T := TX16) (kf := 8) kx_2376 rfl in_X16 cl_X16 (by decide) ((ks_set_ne _ _ (by decide)).trans ((ks_set_ne _ _ (by decide)).trans ((ks_set_ne _ _ (by decide)).trans o1))) rfl dX16_shaBlock_399 rfl ?_
      refine ks_iload dX16_shaBlock_402 rfl rfl ?_
      refine ks_aload_n dX16_shaBlock_404 rfl rfl ?_
      refine ks_getf (T := TX16) (kf := 8) kx_2376 rfl in_X16 cl_X16 (by decide) ((ks_set_ne _ _ (by decide)).trans ((ks_set_ne _ _ (by decide)).trans ((ks_set_ne _ _ (by decide)).trans o1))) rfl dX16_shaBlock_405 rfl ?_
      refine ks_iload dX16_shaBlock_408 rfl rfl ?_
      refine ks_iconst (x := nI 1) dX16_shaBlock_410 (by decide) rfl ?_
      refine ks_subN (by omega) dX16_shaBlock_411 rfl ?_
      refine ks_ialdN (i := ((7 - 1) - 1) - 1 - 1) (ks_set_same _ _ _) rfl (by omega) (by decide) dX16_shaBlock_412 rfl ?_
      refine ks_iastN (i := ((7 - 1) - 1) - 1) (by decide) (ks_set_same _ _ _) rfl (by omega) (by decide) dX16_shaBlock_413 rfl ?_
      refine ks_decN (e := (((7 - 1) - 1) - 1) - 1) dX16_shaBlock_414 rfl (by decide) (by omega) (by decide) rfl ?_
      refine ks_sub [(6, _), (0, _), (1, _), (2, _), (3, _), (4, _), (5, _)] rfl ?_
      refine ks_goto (tgt := 393) dX16_shaBlock_417 (by decide) ?_
      refine ks_iload dX16_shaBlock_393 rfl rfl ?_
      refine ks_if_leN (tgt := 420) (by decide) dX16_shaBlock_395 (by decide) rfl (fun h => absurd h (by decide)) (fun _ => ?_)
      refine ks_aload_n dX16_shaBlock_398 rfl rfl ?_
      refine ks_getf (T := TX16) (kf := 8) kx_2376 rfl in_X16 cl_X16 (by decide) ((ks_set_ne _ _ (by decide)).trans ((ks_set_ne _ _ (by decide)).trans ((ks_set_ne _ _ (by decide)).trans ((ks_set_ne _ _ (by decide)).trans o1)))) rfl dX16_shaBlock_399 rfl ?_
      refine ks_iload dX16_shaBlock_402 rfl rfl ?_
      refine ks_aload_n dX16_shaBlock_404 rfl rfl ?_
      refine ks_getf (T := TX16) (kf := 8) kx_2376 rfl in_X16 cl_X16 (by decide) ((ks_set_ne _ _ (by decide)).trans ((ks_set_ne _ _ (by decide)).trans ((ks_set_ne _ _ (by decide)).trans ((ks_set_ne _ _ (by decide)).trans o1)))) rfl dX16_shaBlock_405 rfl ?_
      refine ks_iload dX16_shaBlock_408 rfl rfl ?_
      refine ks_iconst (x := nI 1) dX16_shaBlock_410 (by decide) rfl ?_
      refine ks_subN (by omega) dX16_shaBlock_411 rfl ?_
      refine ks_ialdN (i := (((7 - 1) - 1) - 1) - 1 - 1) (ks_set_same _ _ _) rfl (by omega) (by decide) dX16_shaBlock_412 rfl ?_
      refine ks_iastN (i := (((7 - 1) - 1) - 1) - 1) (by decide) (ks_set_same _ _ _) rfl (by omega) (by decide) dX16_shaBlock_413 rfl ?_
      refine ks_decN (e := ((((7 - 1) - 1) - 1) - 1) - 1) dX16_shaBlock_414 rfl (by decide) (by omega) (by decide) rfl ?_
      refine ks_sub [(6, _), (0, _), (1, _), (2, _), (3, _), (4, _), (5, _)] rfl ?_
      refine ks_goto (tgt := 393) dX16_shaBlock_417 (by decide) ?_
      refine ks_iload dX16_shaBlock_393 rfl rfl ?_
      refine ks_if_leN (tgt := 420) (by decide) dX16_shaBlock_395 (by decide) rfl (fun h => absurd h (by decide)) (fun _ => ?_)
      refine ks_aload_n dX16_shaBlock_398 rfl rfl ?_
      refine ks_getf (T := TX16) (kf := 8) kx_2376 rfl in_X16 cl_X16 (by decide) ((ks_set_ne _ _ (by decide)).trans ((ks_set_ne _ _ (by decide)).trans ((ks_set_ne _ _ (by decide)).trans ((ks_set_ne _ _ (by decide)).trans ((ks_set_ne _ _ (by decide)).trans o1))))) rfl dX16_shaBlock_399 rfl ?_
      refine ks_iload dX16_shaBlock_402 rfl rfl ?_
      refine ks_aload_n dX16_shaBlock_404 rfl rfl ?_
      refine ks_getf (T := TX16) (kf := 8) kx_2376 rfl in_X16 cl_X16 (by decide) ((ks_set_ne _ _ (by decide)).trans ((ks_set_ne _ _ (by decide)).trans ((ks_set_ne _ _ (by decide)).trans ((ks_set_ne _ _ (by decide)).trans ((ks_set_ne _ _ (by decide)).trans o1))))) rfl dX16_shaBlock_405 rfl ?_
      refine ks_iload dX16_shaBlock_408 rfl rfl ?_
      refine ks_iconst (x := nI 1) dX16_shaBlock_410 (by decide) rfl ?_
      refine ks_subN (by omega) dX16_shaBlock_411 rfl ?_
      refine ks_ialdN (i := ((((7 - 1) - 1) - 1) - 1) - 1 - 1) (ks_set_same _ _ _) rfl (by omega) (by decide) dX16_shaBlock_412 rfl ?_
      refine ks_iastN (i := ((((7 - 1) - 1) - 1) - 1) - 1) (by decide) (ks_set_same _ _ _) rfl (by omega) (by decide) dX16_shaBlock_413 rfl ?_
      refine ks_decN (e := (((((7 - 1) - 1) - 1) - 1) - 1) - 1) dX16_shaBlock_414 rfl (by decide) (by omega) (by decide) rfl ?_
      refine ks_sub [(6, _), (0, _), (1, _), (2, _), (3, _), (4, _), (5, _)] rfl ?_
      refine ks_goto (tgt := 393) dX16_shaBlock_417 (by decide) ?_
      refine ks_iload dX16_shaBlock_393 rfl rfl ?_
      refine ks_if_leN (tgt := 420) (by decide) dX16_shaBlock_395 (by decide) rfl (fun h => absurd h (by decide)) (fun _ => ?_)
      refine ks_aload_n dX16_shaBlock_398 rfl rfl ?_
      refine ks_getf (T := TX16) (kf := 8) kx_2376 rfl in_X16 cl_X16 (by decide) ((ks_set_ne _ _ (by decide)).trans ((ks_set_ne _ _ (by decide)).trans ((ks_set_ne _ _ (by decide)).trans ((ks_set_ne _ _ (by decide)).trans ((ks_set_ne _ _ (by decide)).trans ((ks_set_ne _ _ (by decide)).trans o1)))))) rfl dX16_shaBlock_399 rfl ?_
      refine ks_iload dX16_shaBlock_402 rfl rfl ?_
      refine ks_aload_n dX16_shaBlock_404 rfl rfl ?_
      refine ks_getf (T := TX16) (kf := 8) kx_2376 rfl in_X16 cl_X16 (by decide) ((ks_set_ne _ _ (by decide)).trans ((ks_set_ne _ _ (by decide)).trans ((ks_set_ne _ _ (by decide)).trans ((ks_set_ne _ _ (by decide)).trans ((ks_set_ne _ _ (by decide)).trans ((ks_set_ne _ _ (by decide)).trans o1)))))) rfl dX16_shaBlock_405 rfl ?_
      refine ks_iload dX16_shaBlock_408 rfl rfl ?_
      refine ks_iconst (x := nI 1) dX16_shaBlock_410 (by decide) rfl ?_
      refine ks_subN (by omega) dX16_shaBlock_411 rfl ?_
      refine ks_ialdN (i := (((((7 - 1) - 1) - 1) - 1) - 1) - 1 - 1) (ks_set_same _ _ _) rfl (by omega) (by decide) dX16_shaBlock_412 rfl ?_
      refine ks_iastN (i := (((((7 - 1) - 1) - 1) - 1) - 1) - 1) (by decide) (ks_set_same _ _ _) rfl (by omega) (by decide) dX16_shaBlock_413 rfl ?_
      refine ks_decN (e := ((((((7 - 1) - 1) - 1) - 1) - 1) - 1) - 1) dX16_shaBlock_414 rfl (by decide) (by omega) (by decide) rfl ?_
      refine ks_sub [(6, _), (0, _), (1, _), (2, _), (3, _), (4, _), (5, _)] rfl ?_
      refine ks_goto (tgt := 393) dX16_shaBlock_417 (by decide) ?_
      refine ks_iload dX16_shaBlock_393 rfl rfl ?_
      refine ks_if_leN (tgt := 420) (by decide) dX16_shaBlock_395 (by decide) rfl (fun _ => ?_) (fun h => absurd h (by decide))
      refine ks_aload_n dX16_shaBlock_420 rfl rfl ?_
      refine ks_getf (T := TX16) (kf := 8) kx_2376 rfl in_X16 cl_X16 (by decide) ((ks_set_ne _ _ (by decide)).trans ((ks_set_ne _ _ (by decide)).trans ((ks_set_ne _ _ (by decide)).trans ((ks_set_ne _ _ (by decide)).trans ((ks_set_ne _ _ (by decide)).trans ((ks_set_ne _ _ (by decide)).trans ((ks_set_ne _ _ (by decide)).trans o1))))))) rfl dX16_shaBlock_421 rfl ?_
      refine ks_iconst (x := nI 4) dX16_shaBlock_424 (by decide) rfl ?_
      refine ks_dup2_11 dX16_shaBlock_425 rfl rfl rfl ?_
      refine ks_ialdN (i := 4) (ks_set_same _ _ _) rfl (by decide) (by decide) dX16_shaBlock_426 rfl ?_
      refine ks_iload dX16_shaBlock_427 rfl rfl ?_
      refine ks_iadd dX16_shaBlock_429 rfl ?_
      refine ks_iastN (i := 4) (by decide) (ks_set_same _ _ _) rfl (by decide) (by decide) dX16_shaBlock_430 rfl ?_
      refine ks_aload_n dX16_shaBlock_431 rfl rfl ?_
      refine ks_getf (T := TX16) (kf := 8) kx_2376 rfl in_X16 cl_X16 (by decide) ((ks_set_ne _ _ (by decide)).trans ((ks_set_ne _ _ (by decide)).trans ((ks_set_ne _ _ (by decide)).trans ((ks_set_ne _ _ (by decide)).trans ((ks_set_ne _ _ (by decide)).trans ((ks_set_ne _ _ (by decide)).trans ((ks_set_ne _ _ (by decide)).trans ((ks_set_ne _ _ (by decide)).trans o1)))))))) rfl dX16_shaBlock_432 rfl ?_
      refine ks_iconst (x := nI 0) dX16_shaBlock_435 (by decide) rfl ?_
      refine ks_iload dX16_shaBlock_436 rfl rfl ?_
      refine ks_iload dX16_shaBlock_438 rfl rfl ?_
      refine ks_iadd dX16_shaBlock_440 rfl ?_
      refine ks_iastN (i := 0) (by decide) (ks_set_same _ _ _) rfl (by decide) (by decide) dX16_shaBlock_441 rfl ?_
      refine ks_incN (c := 1) (e := i + 1) dX16_shaBlock_442 rfl (by decide) rfl (by decide) rfl ?_
      refine ks_sub [(3, _), (0, _), (1, _), (2, _), (4, _), (5, _), (6, _)] rfl ?_
      refine ks_goto (tgt := 214) dX16_shaBlock_445 (by decide) ?_
      refine ks_sub [(0, _), (1, _), (2, _), (3, _)] rfl (ih (i + 1) _ f1 _ (by omega) (hu.trans ?_) ?_ (ks_set_same _ _ _) hf ?_)
      · exact (((((((((ks_up_set _ _ (by decide)).trans (ks_up_set _ _ (by decide))).trans (ks_up_set _ _ (by decide))).trans (ks_up_set _ _ (by decide))).trans (ks_up_set _ _ (by decide))).trans (ks_up_set _ _ (by decide))).trans (ks_up_set _ _ (by decide))).trans (ks_up_set _ _ (by decide)))).trans (ks_up_set _ _ (by decide))
      · exact ((ks_set_ne _ _ (by decide)).trans ((ks_set_ne _ _ (by decide)).trans ((ks_set_ne _ _ (by decide)).trans ((ks_set_ne _ _ (by decide)).trans ((ks_set_ne _ _ (by decide)).trans ((ks_set_ne _ _ (by decide)).trans ((ks_set_ne _ _ (by decide)).trans ((ks_set_ne _ _ (by decide)).trans ((ks_set_ne _ _ (by decide)).trans e1)))))))))
      · show _ = sh_step (sh_rd sh_K (sh_ext (sh_B g b) 48) (sh_t F) i) (sh_K i) (sh_ext (sh_B g b) 48 i)
        rw [← hv]
        rfl
  have l3 : ∀ (S1 : ks_S) (f1 : Nat → Int32), ks_up S S1 [293] → S1.2.2 293 = some (kI 64 f1) → (∀ j, j < 64 → f1 j = sh_ext (sh_B g b) 48 j) → ks_X l G mX16_shaBlock (d + 1) 186 [(0, .ref 290), (1, .ref y), (2, .int (nI b))] [] S1 (fun z S' => z = none ∧ ks_up S S' [292, 293, 299] ∧ (∃ f, S'.2.2 293 = some (kI 64 f)) ∧ (∃ f, S'.2.2 299 = some (kI 8 f)) ∧ ∃ F', S'.2.2 292 = some (kI 8 F') ∧ ∀ x, x < 8 → F' x = sh_blk F g b x) := by
    intro S1 f1 hu e1 hf
    have o1 := hu.at hO (by decide)
    have es := hu.at h292 (by decide)
    have ev := hu.at h299 (by decide)
    refine ks_iconst (x := nI 0) dX16_shaBlock_186 (by decide) rfl ?_
    refine ks_istore_n dX16_shaBlock_187 (by decide) rfl ?_
    refine ks_sub [(3, _), (0, _), (1, _), (2, _)] rfl ?_
    refine ks_iload_n dX16_shaBlock_188 rfl rfl ?_
    refine ks_bipush (x := nI 8) dX16_shaBlock_189 (by decide) rfl ?_
    refine ks_icmp_geN (tgt := 212) (by decide) (by decide) dX16_shaBlock_191 (by decide) rfl (fun h => absurd h (by decide)) (fun _ => ?_)
    refine ks_aload_n dX16_shaBlock_194 rfl rfl ?_
    refine ks_getf (T := TX16) (kf := 8) kx_2376 rfl in_X16 cl_X16 (by decide) o1 rfl dX16_shaBlock_195 rfl ?_
    refine ks_iload_n dX16_shaBlock_198 rfl rfl ?_
    refine ks_aload_n dX16_shaBlock_199 rfl rfl ?_
    refine ks_getf (T := TX16) (kf := 1) kx_2369 rfl in_X16 cl_X16 (by decide) o1 rfl dX16_shaBlock_200 rfl ?_
    refine ks_iload_n dX16_shaBlock_203 rfl rfl ?_
    refine ks_ialdN (i := 0) es rfl (by decide) (by decide) dX16_shaBlock_204 rfl ?_
    refine ks_iastN (i := 0) (by decide) ev rfl (by decide) (by decide) dX16_shaBlock_205 rfl ?_
    refine ks_incN (c := 1) (e := 1) dX16_shaBlock_206 rfl (by decide) rfl (by decide) rfl ?_
    refine ks_sub [(3, _), (0, _), (1, _), (2, _)] rfl ?_
    refine ks_goto (tgt := 188) dX16_shaBlock_209 (by decide) ?_
    refine ks_iload_n dX16_shaBlock_188 rfl rfl ?_
    refine ks_bipush (x := nI 8) dX16_shaBlock_189 (by decide) rfl ?_
    refine ks_icmp_geN (tgt := 212) (by decide) (by decide) dX16_shaBlock_191 (by decide) rfl (fun h => absurd h (by decide)) (fun _ => ?_)
    refine ks_aload_n dX16_shaBlock_194 rfl rfl ?_
    refine ks_getf (T := TX16) (kf := 8) kx_2376 rfl in_X16 cl_X16 (by decide) ((ks_set_ne _ _ (by decide)).trans o1) rfl dX16_shaBlock_195 rfl ?_
    refine ks_iload_n dX16_shaBlock_198 rfl rfl ?_
    refine ks_aload_n dX16_shaBlock_199 rfl rfl ?_
    refine ks_getf (T := TX16) (kf := 1) kx_2369 rfl in_X16 cl_X16 (by decide) ((ks_set_ne _ _ (by decide)).trans o1) rfl dX16_shaBlock_200 rfl ?_
    refine ks_iload_n dX16_shaBlock_203 rfl rfl ?_
    refine ks_ialdN (i := 1) ((ks_set_ne _ _ (by decide)).trans es) rfl (by decide) (by decide) dX16_shaBlock_204 rfl ?_
    refine ks_iastN (i := 1) (by decide) (ks_set_same _ _ _) rfl (by decide) (by decide) dX16_shaBlock_205 rfl ?_
    refine ks_incN (c := 1) (e := 2) dX16_shaBlock_206 rfl (by decide) rfl (by decide) rfl ?_
    refine ks_sub [(3, _), (0, _), (1, _), (2, _)] rfl ?_
    refine ks_goto (tgt := 188) dX16_shaBlock_209 (by decide) ?_
    refine ks_iload_n dX16_shaBlock_188 rfl rfl ?_
    refine ks_bipush (x := nI 8) dX16_shaBlock_189 (by decide) rfl ?_
    refine ks_icmp_geN (tgt := 212) (by decide) (by decide) dX16_shaBlock_191 (by decide) rfl (fun h => absurd h (by decide)) (fun _ => ?_)
    refine ks_aload_n dX16_shaBlock_194 rfl rfl ?_
    refine ks_getf (T := TX16) (kf := 8) kx_2376 rfl in_X16 cl_X16 (by decide) ((ks_set_ne _ _ (by decide)).trans ((ks_set_ne _ _ (by decide)).trans o1)) rfl dX16_shaBlock_195 rfl ?_
    refine ks_iload_n dX16_shaBlock_198 rfl rfl ?_
    refine ks_aload_n dX16_shaBlock_199 rfl rfl ?_
    refine ks_getf (T := TX16) (kf := 1) kx_2369 rfl in_X16 cl_X16 (by decide) ((ks_set_ne _ _ (by decide)).trans ((ks_set_ne _ _ (by decide)).trans o1)) rfl dX16_shaBlock_200 rfl ?_
    refine ks_iload_n dX16_shaBlock_203 rfl rfl ?_
    refine ks_ialdN (i := 2) ((ks_set_ne _ _ (by decide)).trans ((ks_set_ne _ _ (by decide)).trans es)) rfl (by decide) (by decide) dX16_shaBlock_204 rfl ?_
    refine ks_iastN (i := 2) (by decide) (ks_set_same _ _ _) rfl (by decide) (by decide) dX16_shaBlock_205 rfl ?_
    refine ks_incN (c := 1) (e := 3) dX16_shaBlock_206 rfl (by decide) rfl (by decide) rfl ?_
    refine ks_sub [(3, _), (0, _), (1, _), (2, _)] rfl ?_
    refine ks_goto (tgt := 188) dX16_shaBlock_209 (by decide) ?_
    refine ks_iload_n dX16_shaBlock_188 rfl rfl ?_
    refine ks_bipush (x := nI 8) dX16_shaBlock_189 (by decide) rfl ?_
    refine ks_icmp_geN (tgt := 212) (by decide) (by decide) dX16_shaBlock_191 (by decide) rfl (fun h => absurd h (by decide)) (fun _ => ?_)
    refine ks_aload_n dX16_shaBlock_194 rfl rfl ?_
    refine ks_getf (T := TX16) (kf := 8) kx_2376 rfl in_X16 cl_X16 (by decide) ((ks_set_ne _ _ (by decide)).trans ((ks_set_ne _ _ (by decide)).trans ((ks_set_ne _ _ (by decide)).trans o1))) rfl dX16_shaBlock_195 rfl ?_
    refine ks_iload_n dX16_shaBlock_198 rfl rfl ?_
    refine ks_aload_n dX16_shaBlock_199 rfl rfl ?_
    refine ks_getf (T := TX16) (kf := 1) kx_2369 rfl in_X16 cl_X16 (by decide) ((ks_set_ne _ _ (by decide)).trans ((ks_set_ne _ _ (by decide)).trans ((ks_set_ne _ _ (by decide)).trans o1))) rfl dX16_shaBlock_200 rfl ?_
    refine ks_iload_n dX16_shaBlock_203 rfl rfl ?_
    refine ks_ialdN (i := 3) ((ks_set_ne _ _ (by decide)).trans ((ks_set_ne _ _ (by decide)).trans ((ks_set_ne _ _ (by decide)).trans es))) rfl (by decide) (by decide) dX16_shaBlock_204 rfl ?_
    refine ks_iastN (i := 3) (by decide) (ks_set_same _ _ _) rfl (by decide) (by decide) dX16_shaBlock_205 rfl ?_
    refine ks_incN (c := 1) (e := 4) dX16_shaBlock_206 rfl (by decide) rfl (by decide) rfl ?_
    refine ks_sub [(3, _), (0, _), (1, _), (2, _)] rfl ?_
    refine ks_goto (tgt := 188) dX16_shaBlock_209 (by decide) ?_
    refine ks_iload_n dX16_shaBlock_188 rfl rfl ?_
    refine ks_bipush (x := nI 8) dX16_shaBlock_189 (by decide) rfl ?_
    refine ks_icmp_geN (tgt := 212) (by decide) (by decide) dX16_shaBlock_191 (by decide) rfl (fun h => absurd h (by decide)) (fun _ => ?_)
    refine ks_aload_n dX16_shaBlock_194 rfl rfl ?_
    refine ks_getf (T := TX16) (kf := 8) kx_2376 rfl in_X16 cl_X16 (by decide) ((ks_set_ne _ _ (by decide)).trans ((ks_set_ne _ _ (by decide)).trans ((ks_set_ne _ _ (by decide)).trans ((ks_set_ne _ _ (by decide)).trans o1)))) rfl dX16_shaBlock_195 rfl ?_
    refine ks_iload_n dX16_shaBlock_198 rfl rfl ?_
    refine ks_aload_n dX16_shaBlock_199 rfl rfl ?_
    refine ks_getf (T := TX16) (kf := 1) kx_2369 rfl in_X16 cl_X16 (by decide) ((ks_set_ne _ _ (by decide)).trans ((ks_set_ne _ _ (by decide)).trans ((ks_set_ne _ _ (by decide)).trans ((ks_set_ne _ _ (by decide)).trans o1)))) rfl dX16_shaBlock_200 rfl ?_
    refine ks_iload_n dX16_shaBlock_203 rfl rfl ?_
    refine ks_ialdN (i := 4) ((ks_set_ne _ _ (by decide)).trans ((ks_set_ne _ _ (by decide)).trans ((ks_set_ne _ _ (by decide)).trans ((ks_set_ne _ _ (by decide)).trans es)))) rfl (by decide) (by decide) dX16_shaBlock_204 rfl ?_
    refine ks_iastN (i := 4) (by decide) (ks_set_same _ _ _) rfl (by decide) (by decide) dX16_shaBlock_205 rfl ?_
    refine ks_incN (c := 1) (e := 5) dX16_shaBlock_206 rfl (by decide) rfl (by decide) rfl ?_
    refine ks_sub [(3, _), (0, _), (1, _), (2, _)] rfl ?_
    refine ks_goto (tgt := 188) dX16_shaBlock_209 (by decide) ?_
    refine ks_iload_n dX16_shaBlock_188 rfl rfl ?_
    refine ks_bipush (x := nI 8) dX16_shaBlock_189 (by decide) rfl ?_
    refine ks_icmp_geN (tgt := 212) (by decide) (by decide) dX16_shaBlock_191 (by decide) rfl (fun h => absurd h (by decide)) (fun _ => ?_)
    refine ks_aload_n dX16_shaBlock_194 rfl rfl ?_
    refine ks_getf (T := TX16) (kf := 8) kx_2376 rfl in_X16 cl_X16 (by decide) ((ks_set_ne _ _ (by decide)).trans ((ks_set_ne _ _ (by decide)).trans ((ks_set_ne _ _ (by decide)).trans ((ks_set_ne _ _ (by decide)).trans ((ks_set_ne _ _ (by decide)).trans o1))))) rfl dX16_shaBlock_195 rfl ?_
    refine ks_iload_n dX16_shaBlock_198 rfl rfl ?_
    refine ks_aload_n dX16_shaBlock_199 rfl rfl ?_
    refine ks_getf (T := TX16) (kf := 1) kx_2369 rfl in_X16 cl_X16 (by decide) ((ks_set_ne _ _ (by decide)).trans ((ks_set_ne _ _ (by decide)).trans ((ks_set_ne _ _ (by decide)).trans ((ks_set_ne _ _ (by decide)).trans ((ks_set_ne _ _ (by decide)).trans o1))))) rfl dX16_shaBlock_200 rfl ?_
    refine ks_iload_n dX16_shaBlock_203 rfl rfl ?_
    refine ks_ialdN (i := 5) ((ks_set_ne _ _ (by decide)).trans ((ks_set_ne _ _ (by decide)).trans ((ks_set_ne _ _ (by decide)).trans ((ks_set_ne _ _ (by decide)).trans ((ks_set_ne _ _ (by decide)).trans es))))) rfl (by decide) (by decide) dX16_shaBlock_204 rfl ?_
    refine ks_iastN (i := 5) (by decide) (ks_set_same _ _ _) rfl (by decide) (by decide) dX16_shaBlock_205 rfl ?_
    refine ks_incN (c := 1) (e := 6) dX16_shaBlock_206 rfl (by decide) rfl (by decide) rfl ?_
    refine ks_sub [(3, _), (0, _), (1, _), (2, _)] rfl ?_
    refine ks_goto (tgt := 188) dX16_shaBlock_209 (by decide) ?_
    refine ks_iload_n dX16_shaBlock_188 rfl rfl ?_
    refine ks_bipush (x := nI 8) dX16_shaBlock_189 (by decide) rfl ?_
    refine ks_icmp_geN (tgt := 212) (by decide) (by decide) dX16_shaBlock_191 (by decide) rfl (fun h => absurd h (by decide)) (fun _ => ?_)
    refine ks_aload_n dX16_shaBlock_194 rfl rfl ?_
    refine ks_getf (T := TX16) (kf := 8) kx_2376 rfl in_X16 cl_X16 (by decide) ((ks_set_ne _ _ (by decide)).trans ((ks_set_ne _ _ (by decide)).trans ((ks_set_ne _ _ (by decide)).trans ((ks_set_ne _ _ (by decide)).trans ((ks_set_ne _ _ (by decide)).trans ((ks_set_ne _ _ (by decide)).trans o1)))))) rfl dX16_shaBlock_195 rfl ?_
    refine ks_iload_n dX16_shaBlock_198 rfl rfl ?_
    refine ks_aload_n dX16_shaBlock_199 rfl rfl ?_
    refine ks_getf (T := TX16) (kf := 1) kx_2369 rfl in_X16 cl_X16 (by decide) ((ks_set_ne _ _ (by decide)).trans ((ks_set_ne _ _ (by decide)).trans ((ks_set_ne _ _ (by decide)).trans ((ks_set_ne _ _ (by decide)).trans ((ks_set_ne _ _ (by decide)).trans ((ks_set_ne _ _ (by decide)).trans o1)))))) rfl dX16_shaBlock_200 rfl ?_
    refine ks_iload_n dX16_shaBlock_203 rfl rfl ?_
    refine ks_ialdN (i := 6) ((ks_set_ne _ _ (by decide)).trans ((ks_set_ne _ _ (by decide)).trans ((ks_set_ne _ _ (by decide)).trans ((ks_set_ne _ _ (by decide)).trans ((ks_set_ne _ _ (by decide)).trans ((ks_set_ne _ _ (by decide)).trans es)))))) rfl (by decide) (by decide) dX16_shaBlock_204 rfl ?_
    refine ks_iastN (i := 6) (by decide) (ks_set_same _ _ _) rfl (by decide) (by decide) dX16_shaBlock_205 rfl ?_
    refine ks_incN (c := 1) (e := 7) dX16_shaBlock_206 rfl (by decide) rfl (by decide) rfl ?_
    refine ks_sub [(3, _), (0, _), (1, _), (2, _)] rfl ?_
    refine ks_goto (tgt := 188) dX16_shaBlock_209 (by decide) ?_
    refine ks_iload_n dX16_shaBlock_188 rfl rfl ?_
    refine ks_bipush (x := nI 8) dX16_shaBlock_189 (by decide) rfl ?_
    refine ks_icmp_geN (tgt := 212) (by decide) (by decide) dX16_shaBlock_191 (by decide) rfl (fun h => absurd h (by decide)) (fun _ => ?_)
    refine ks_aload_n dX16_shaBlock_194 rfl rfl ?_
    refine ks_getf (T := TX16) (kf := 8) kx_2376 rfl in_X16 cl_X16 (by decide) ((ks_set_ne _ _ (by decide)).trans ((ks_set_ne _ _ (by decide)).trans ((ks_set_ne _ _ (by decide)).trans ((ks_set_ne _ _ (by decide)).trans ((ks_set_ne _ _ (by decide)).trans ((ks_set_ne _ _ (by decide)).trans ((ks_set_ne _ _ (by decide)).trans o1))))))) rfl dX16_shaBlock_195 rfl ?_
    refine ks_iload_n dX16_shaBlock_198 rfl rfl ?_
    refine ks_aload_n dX16_shaBlock_199 rfl rfl ?_
    refine ks_getf (T := TX16) (kf := 1) kx_2369 rfl in_X16 cl_X16 (by decide) ((ks_set_ne _ _ (by decide)).trans ((ks_set_ne _ _ (by decide)).trans ((ks_set_ne _ _ (by decide)).trans ((ks_set_ne _ _ (by decide)).trans ((ks_set_ne _ _ (by decide)).trans ((ks_set_ne _ _ (by decide)).trans ((ks_set_ne _ _ (by decide)).trans o1))))))) rfl dX16_shaBlock_200 rfl ?_
    refine ks_iload_n dX16_shaBlock_203 rfl rfl ?_
    refine ks_ialdN (i := 7) ((ks_set_ne _ _ (by decide)).trans ((ks_set_ne _ _ (by decide)).trans ((ks_set_ne _ _ (by decide)).trans ((ks_set_ne _ _ (by decide)).trans ((ks_set_ne _ _ (by decide)).trans ((ks_set_ne _ _ (by decide)).trans ((ks_set_ne _ _ (by decide)).trans es))))))) rfl (by decide) (by decide) dX16_shaBlock_204 rfl ?_
    refine ks_iastN (i := 7) (by decide) (ks_set_same _ _ _) rfl (by decide) (by decide) dX16_shaBlock_205 rfl ?_
    refine ks_incN (c := 1) (e := 8) dX16_shaBlock_206 rfl (by decide) rfl (by decide) rfl ?_
    refine ks_sub [(3, _), (0, _), (1, _), (2, _)] rfl ?_
    refine ks_goto (tgt := 188) dX16_shaBlock_209 (by decide) ?_
    refine ks_iload_n dX16_shaBlock_188 rfl rfl ?_
    refine ks_bipush (x := nI 8) dX16_shaBlock_189 (by decide) rfl ?_
    refine ks_icmp_geN (tgt := 212) (by decide) (by decide) dX16_shaBlock_191 (by decide) rfl (fun _ => ?_) (fun h => absurd h (by decide))
    refine ks_iconst (x := nI 0) dX16_shaBlock_212 (by decide) rfl ?_
    refine ks_istore_n dX16_shaBlock_213 (by decide) rfl ?_
    refine ks_sub [(3, _), (0, _), (1, _), (2, _)] rfl ?_
    refine ks_sub [(0, _), (1, _), (2, _), (3, _)] rfl (l4 64 0 _ f1 _ rfl ((hu.mono (by decide)).trans ?_) ?_ (ks_set_same _ _ _) hf rfl)
    · exact (((((((ks_up_set _ _ (by decide)).trans (ks_up_set _ _ (by decide))).trans (ks_up_set _ _ (by decide))).trans (ks_up_set _ _ (by decide))).trans (ks_up_set _ _ (by decide))).trans (ks_up_set _ _ (by decide))).trans (ks_up_set _ _ (by decide))).trans (ks_up_set _ _ (by decide))
    · exact ((ks_set_ne _ _ (by decide)).trans ((ks_set_ne _ _ (by decide)).trans ((ks_set_ne _ _ (by decide)).trans ((ks_set_ne _ _ (by decide)).trans ((ks_set_ne _ _ (by decide)).trans ((ks_set_ne _ _ (by decide)).trans ((ks_set_ne _ _ (by decide)).trans ((ks_set_ne _ _ (by decide)).trans e1))))))))
  have l2 : ∀ (u k : Nat) (S1 : ks_S) (f1 : Nat → Int32), k + u = 48 → ks_up S S1 [293] → S1.2.2 293 = some (kI 64 f1) → (∀ j, j < 16 + k → f1 j = sh_ext (sh_B g b) k j) → ks_X l G mX16_shaBlock (d + 1) 85 [(0, .ref 290), (1, .ref y), (2, .int (nI b)), (3, .int (nI (16 + k)))] [] S1 (fun z S' => z = none ∧ ks_up S S' [292, 293, 299] ∧ (∃ f, S'.2.2 293 = some (kI 64 f)) ∧ (∃ f, S'.2.2 299 = some (kI 8 f)) ∧ ∃ F', S'.2.2 292 = some (kI 8 F') ∧ ∀ x, x < 8 → F' x = sh_blk F g b x) := by
    intro u
    induction u with
    | zero =>
      intro k S1 f1 hk hu e1 hf
      have o1 := hu.at hO (by decide)
      obtain rfl : k = 48 := hk
      refine ks_iload_n dX16_shaBlock_85 rfl rfl ?_
      refine ks_bipush (x := nI 64) dX16_shaBlock_86 (by decide) rfl ?_
      refine ks_icmp_geN (tgt := 186) (by decide) (by decide) dX16_shaBlock_88 (by decide) rfl (fun _ => ?_) (fun h => absurd h (by decide))
      exact ks_sub [(0, _), (1, _), (2, _)] rfl (l3 S1 f1 hu e1 hf)
    | succ u ih =>
      intro k S1 f1 hk hu e1 hf
      have o1 := hu.at hO (by decide)
      refine ks_iload_n dX16_shaBlock_85 rfl rfl ?_
      refine ks_bipush (x := nI 64) dX16_shaBlock_86 (by decide) rfl ?_
      refine ks_icmp_geN (tgt := 186) (by omega) (by decide) dX16_shaBlock_88 (by decide) rfl (fun h1 => absurd h1 (by omega)) (fun h1 => ?_)
      refine ks_aload_n dX16_shaBlock_91 rfl rfl ?_
      refine ks_getf (T := TX16) (kf := 2) kx_2370 rfl in_X16 cl_X16 (by decide) o1 rfl dX16_shaBlock_92 rfl ?_
      refine ks_iload_n dX16_shaBlock_95 rfl rfl ?_
      refine ks_bipush (x := nI 15) dX16_shaBlock_96 (by decide) rfl ?_
      refine ks_subN (by omega) dX16_shaBlock_98 rfl ?_
      refine ks_ialdN (i := 16 + k - 15) e1 rfl (by omega) (by decide) dX16_shaBlock_99 rfl ?_
      refine ks_istore dX16_shaBlock_100 (by decide) rfl ?_
      refine ks_sub [(4, _), (0, _), (1, _), (2, _), (3, _)] rfl ?_
      refine ks_aload_n dX16_shaBlock_102 rfl rfl ?_
      refine ks_getf (T := TX16) (kf := 2) kx_2370 rfl in_X16 cl_X16 (by decide) o1 rfl dX16_shaBlock_103 rfl ?_
      refine ks_iload_n dX16_shaBlock_106 rfl rfl ?_
      refine ks_iconst (x := nI 2) dX16_shaBlock_107 (by decide) rfl ?_
      refine ks_subN (by omega) dX16_shaBlock_108 rfl ?_
      refine ks_ialdN (i := 16 + k - 2) e1 rfl (by omega) (by decide) dX16_shaBlock_109 rfl ?_
      refine ks_istore dX16_shaBlock_110 (by decide) rfl ?_
      refine ks_sub [(5, _), (0, _), (1, _), (2, _), (3, _), (4, _)] rfl ?_
      refine ks_aload_n dX16_shaBlock_112 rfl rfl ?_
      refine ks_getf (T := TX16) (kf := 2) kx_2370 rfl in_X16 cl_X16 (by decide) o1 rfl dX16_shaBlock_113 rfl ?_
      refine ks_iload_n dX16_shaBlock_116 rfl rfl ?_
      refine ks_aload_n dX16_shaBlock_117 rfl rfl ?_
      refine ks_getf (T := TX16) (kf := 2) kx_2370 rfl in_X16 cl_X16 (by decide) o1 rfl dX16_shaBlock_118 rfl ?_
      refine ks_iload_n dX16_shaBlock_121 rfl rfl ?_
      refine ks_bipush (x := nI 16) dX16_shaBlock_122 (by decide) rfl ?_
      refine ks_subN (by omega) dX16_shaBlock_124 rfl ?_
      refine ks_ialdN (i := 16 + k - 16) e1 rfl (by omega) (by decide) dX16_shaBlock_125 rfl ?_
      refine ks_iload dX16_shaBlock_126 rfl rfl ?_
      refine ks_bipush (x := nI 25) dX16_shaBlock_128 (by decide) rfl ?_
      refine ks_callS (n := 2) (M' := mX16_turn) (c_md_turn (d := d)) kx_2000 kx_2001 kx_30 kx_2002 (by decide +kernel) rfl (by decide) (Nat.le_of_ble_eq_true rfl) rfl dX16_shaBlock_130 rfl (fun z31 T31 y31 => ?_)
      obtain ⟨rfl, hT31⟩ := y31
      obtain rfl := hT31.symm
      refine ks_iload dX16_shaBlock_133 rfl rfl ?_
      refine ks_bipush (x := nI 14) dX16_shaBlock_135 (by decide) rfl ?_
      refine ks_callS (n := 2) (M' := mX16_turn) (c_md_turn (d := d)) kx_2000 kx_2001 kx_30 kx_2002 (by decide +kernel) rfl (by decide) (Nat.le_of_ble_eq_true rfl) rfl dX16_shaBlock_137 rfl (fun z32 T32 y32 => ?_)
      obtain ⟨rfl, hT32⟩ := y32
      obtain rfl := hT32.symm
      refine ks_ixor dX16_shaBlock_140 rfl ?_
      refine ks_iload dX16_shaBlock_141 rfl rfl ?_
      refine ks_iconst (x := nI 3) dX16_shaBlock_143 (by decide) rfl ?_
      refine ks_iushr dX16_shaBlock_144 rfl ?_
      refine ks_ixor dX16_shaBlock_145 rfl ?_
      refine ks_iadd dX16_shaBlock_146 rfl ?_
      refine ks_aload_n dX16_shaBlock_147 rfl rfl ?_
      refine ks_getf (T := TX16) (kf := 2) kx_2370 rfl in_X16 cl_X16 (by decide) o1 rfl dX16_shaBlock_148 rfl ?_
      refine ks_iload_n dX16_shaBlock_151 rfl rfl ?_
      refine ks_bipush (x := nI 7) dX16_shaBlock_152 (by decide) rfl ?_
      refine ks_subN (by omega) dX16_shaBlock_154 rfl ?_
      refine ks_ialdN (i := 16 + k - 7) e1 rfl (by omega) (by decide) dX16_shaBlock_155 rfl ?_
      refine ks_iadd dX16_shaBlock_156 rfl ?_
      refine ks_iload dX16_shaBlock_157 rfl rfl ?_
      refine ks_bipush (x := nI 15) dX16_shaBlock_159 (by decide) rfl ?_
      refine ks_callS (n := 2) (M' := mX16_turn) (c_md_turn (d := d)) kx_2000 kx_2001 kx_30 kx_2002 (by decide +kernel) rfl (by decide) (Nat.le_of_ble_eq_true rfl) rfl dX16_shaBlock_161 rfl (fun z33 T33 y33 => ?_)
      obtain ⟨rfl, hT33⟩ := y33
      obtain rfl := hT33.symm
      refine ks_iload dX16_shaBlock_164 rfl rfl ?_
      refine ks_bipush (x := nI 13) dX16_shaBlock_166 (by decide) rfl ?_
      refine ks_callS (n := 2) (M' := mX16_turn) (c_md_turn (d := d)) kx_2000 kx_2001 kx_30 kx_2002 (by decide +kernel) rfl (by decide) (Nat.le_of_ble_eq_true rfl) rfl dX16_shaBlock_168 rfl (fun z34 T34 y34 => ?_)
      obtain ⟨rfl, hT34⟩ := y34
      obtain rfl := hT34.symm
      refine ks_ixor dX16_shaBlock_171 rfl ?_
      refine ks_iload dX16_shaBlock_172 rfl rfl ?_
      refine ks_bipush (x := nI 10) dX16_shaBlock_174 (by decide) rfl ?_
      refine ks_iushr dX16_shaBlock_176 rfl ?_
      refine ks_ixor dX16_shaBlock_177 rfl ?_
      refine ks_iadd dX16_shaBlock_178 rfl ?_
      have x0 : f1 (16 + k - 16) = sh_ext (sh_B g b) k k := by rw [show 16 + k - 16 = k by omega]; exact hf k (by omega)
      have x1 : f1 (16 + k - 15) = sh_ext (sh_B g b) k (k + 1) := by rw [show 16 + k - 15 = k + 1 by omega]; exact hf _ (by omega)
      have x9 : f1 (16 + k - 7) = sh_ext (sh_B g b) k (k + 9) := by rw [show 16 + k - 7 = k + 9 by omega]; exact hf _ (by omega)
      have x14 : f1 (16 + k - 2) = sh_ext (sh_B g b) k (k + 14) := by rw [show 16 + k - 2 = k + 14 by omega]; exact hf _ (by omega)
      refine ks_ti (y := sh_ext (sh_B g b) k k + sh_s0 (sh_ext (sh_B g b) k (k + 1)) + sh_ext (sh_B g b) k (k + 9) + sh_s1 (sh_ext (sh_B g b) k (k + 14))) (by rw [← x0, ← x1, ← x9, ← x14, ← tn_s0, ← tn_s1]; rfl) ?_
      refine ks_iastN (i := 16 + k) (by decide) e1 rfl (by omega) (by decide) dX16_shaBlock_179 rfl ?_
      refine ks_incN (c := 1) (e := 16 + k + 1) dX16_shaBlock_180 rfl (by decide) rfl (by decide) rfl ?_
      refine ks_sub [(3, _), (0, _), (1, _), (2, _), (4, _), (5, _)] rfl ?_
      refine ks_goto (tgt := 85) dX16_shaBlock_183 (by decide) ?_
      refine ks_sub [(0, _), (1, _), (2, _), (3, _)] rfl (ih (k + 1) _ _ (by omega) (hu.trans (ks_up_set _ _ (List.mem_singleton.mpr rfl))) (ks_set_same _ _ _) (fun j hj => ?_))
      show _ = va_up (sh_ext (sh_B g b) k) (16 + k) _ j
      by_cases e : j = 16 + k
      · subst e; rw [va_up_self, va_up_self]
      · rw [va_up_ne _ _ e, va_up_ne _ _ e]; exact hf j (by omega)
  have l1 : ∀ (u i : Nat) (S1 : ks_S) (f1 : Nat → Int32), i + u = 16 → ks_up S S1 [293] → S1.2.2 293 = some (kI 64 f1) → (∀ j, j < i → f1 j = sh_B g b j) → ks_X l G mX16_shaBlock (d + 1) 2 [(0, .ref 290), (1, .ref y), (2, .int (nI b)), (3, .int (nI i))] [] S1 (fun z S' => z = none ∧ ks_up S S' [292, 293, 299] ∧ (∃ f, S'.2.2 293 = some (kI 64 f)) ∧ (∃ f, S'.2.2 299 = some (kI 8 f)) ∧ ∃ F', S'.2.2 292 = some (kI 8 F') ∧ ∀ x, x < 8 → F' x = sh_blk F g b x) := by
    intro u
    induction u with
    | zero =>
      intro i S1 f1 hi hu e1 hf
      have o1 := hu.at hO (by decide)
      have ey := hu.at hy (by simp only [List.mem_cons, List.not_mem_nil, or_false]; omega)
      obtain rfl : i = 16 := hi
      refine ks_iload_n dX16_shaBlock_2 rfl rfl ?_
      refine ks_bipush (x := nI 16) dX16_shaBlock_3 (by decide) rfl ?_
      refine ks_icmp_geN (tgt := 82) (by decide) (by decide) dX16_shaBlock_5 (by decide) rfl (fun _ => ?_) (fun h => absurd h (by decide))
      refine ks_bipush (x := nI 16) dX16_shaBlock_82 (by decide) rfl ?_
      refine ks_istore_n dX16_shaBlock_84 (by decide) rfl ?_
      refine ks_sub [(3, _), (0, _), (1, _), (2, _)] rfl ?_
      exact ks_sub [(0, _), (1, _), (2, _), (3, _)] rfl (l2 48 0 S1 f1 rfl hu e1 hf)
    | succ u ih =>
      intro i S1 f1 hi hu e1 hf
      have o1 := hu.at hO (by decide)
      have ey := hu.at hy (by simp only [List.mem_cons, List.not_mem_nil, or_false]; omega)
      have i16 : i < 16 := by omega
      refine ks_iload_n dX16_shaBlock_2 rfl rfl ?_
      refine ks_bipush (x := nI 16) dX16_shaBlock_3 (by decide) rfl ?_
      refine ks_icmp_geN (tgt := 82) (by omega) (by decide) dX16_shaBlock_5 (by decide) rfl (fun h1 => absurd h1 (by omega)) (fun h1 => ?_)
      refine ks_aload_n dX16_shaBlock_8 rfl rfl ?_
      refine ks_getf (T := TX16) (kf := 2) kx_2370 rfl in_X16 cl_X16 (by decide) o1 rfl dX16_shaBlock_9 rfl ?_
      refine ks_iload_n dX16_shaBlock_12 rfl rfl ?_
      refine ks_aload_n dX16_shaBlock_13 rfl rfl ?_
      refine ks_iload_n dX16_shaBlock_14 rfl rfl ?_
      refine ks_iconst (x := nI 4) dX16_shaBlock_15 (by decide) rfl ?_
      refine ks_iload_n dX16_shaBlock_16 rfl rfl ?_
      refine ks_mulN dX16_shaBlock_17 rfl ?_
      refine ks_addN dX16_shaBlock_18 rfl ?_
      refine ks_baldB (i := b + (4 * i)) ey rfl (by omega) (by omega) dX16_shaBlock_19 rfl ?_
      refine ks_sipush (x := nI 255) dX16_shaBlock_20 (by decide) rfl ?_
      refine ks_andB (kg _) dX16_shaBlock_23 rfl ?_
      have hy23 : g (b + (4 * i)) < 256 := (kg _)
      refine ks_bipush (x := nI 24) dX16_shaBlock_24 (by decide) rfl ?_
      refine ks_ishl dX16_shaBlock_26 rfl ?_
      refine ks_aload_n dX16_shaBlock_27 rfl rfl ?_
      refine ks_iload_n dX16_shaBlock_28 rfl rfl ?_
      refine ks_iconst (x := nI 4) dX16_shaBlock_29 (by decide) rfl ?_
      refine ks_iload_n dX16_shaBlock_30 rfl rfl ?_
      refine ks_mulN dX16_shaBlock_31 rfl ?_
      refine ks_addN dX16_shaBlock_32 rfl ?_
      refine ks_iconst (x := nI 1) dX16_shaBlock_33 (by decide) rfl ?_
      refine ks_addN dX16_shaBlock_34 rfl ?_
      refine ks_baldB (i := b + (4 * i) + 1) ey rfl (by omega) (by omega) dX16_shaBlock_35 rfl ?_
      refine ks_sipush (x := nI 255) dX16_shaBlock_36 (by decide) rfl ?_
      refine ks_andB (kg _) dX16_shaBlock_39 rfl ?_
      have hy39 : g (b + (4 * i) + 1) < 256 := (kg _)
      refine ks_bipush (x := nI 16) dX16_shaBlock_40 (by decide) rfl ?_
      refine ks_ishl dX16_shaBlock_42 rfl ?_
      refine ks_ior dX16_shaBlock_43 rfl ?_
      refine ks_aload_n dX16_shaBlock_44 rfl rfl ?_
      refine ks_iload_n dX16_shaBlock_45 rfl rfl ?_
      refine ks_iconst (x := nI 4) dX16_shaBlock_46 (by decide) rfl ?_
      refine ks_iload_n dX16_shaBlock_47 rfl rfl ?_
      refine ks_mulN dX16_shaBlock_48 rfl ?_
      refine ks_addN dX16_shaBlock_49 rfl ?_
      refine ks_iconst (x := nI 2) dX16_shaBlock_50 (by decide) rfl ?_
      refine ks_addN dX16_shaBlock_51 rfl ?_
      refine ks_baldB (i := b + (4 * i) + 2) ey rfl (by omega) (by omega) dX16_shaBlock_52 rfl ?_
      refine ks_sipush (x := nI 255) dX16_shaBlock_53 (by decide) rfl ?_
      refine ks_andB (kg _) dX16_shaBlock_56 rfl ?_
      have hy56 : g (b + (4 * i) + 2) < 256 := (kg _)
      refine ks_bipush (x := nI 8) dX16_shaBlock_57 (by decide) rfl ?_
      refine ks_ishl dX16_shaBlock_59 rfl ?_
      refine ks_ior dX16_shaBlock_60 rfl ?_
      refine ks_aload_n dX16_shaBlock_61 rfl rfl ?_
      refine ks_iload_n dX16_shaBlock_62 rfl rfl ?_
      refine ks_iconst (x := nI 4) dX16_shaBlock_63 (by decide) rfl ?_
      refine ks_iload_n dX16_shaBlock_64 rfl rfl ?_
      refine ks_mulN dX16_shaBlock_65 rfl ?_
      refine ks_addN dX16_shaBlock_66 rfl ?_
      refine ks_iconst (x := nI 3) dX16_shaBlock_67 (by decide) rfl ?_
      refine ks_addN dX16_shaBlock_68 rfl ?_
      refine ks_baldB (i := b + (4 * i) + 3) ey rfl (by omega) (by omega) dX16_shaBlock_69 rfl ?_
      refine ks_sipush (x := nI 255) dX16_shaBlock_70 (by decide) rfl ?_
      refine ks_andB (kg _) dX16_shaBlock_73 rfl ?_
      have hy73 : g (b + (4 * i) + 3) < 256 := (kg _)
      refine ks_ior dX16_shaBlock_74 rfl ?_
      refine ks_ti (y := sh_B g b i) (be4_raw (kg _) (kg _) (kg _) (kg _)) ?_
      refine ks_iastN (i := i) (by decide) e1 rfl (by omega) (by decide) dX16_shaBlock_75 rfl ?_
      refine ks_incN (c := 1) (e := i + 1) dX16_shaBlock_76 rfl (by decide) rfl (by decide) rfl ?_
      refine ks_sub [(3, _), (0, _), (1, _), (2, _)] rfl ?_
      refine ks_goto (tgt := 2) dX16_shaBlock_79 (by decide) ?_
      refine ks_sub [(0, _), (1, _), (2, _), (3, _)] rfl (ih (i + 1) _ _ (by omega) (hu.trans (ks_up_set _ _ (List.mem_singleton.mpr rfl))) (ks_set_same _ _ _) (fun j hj => ?_))
      by_cases e : j = i
      · subst e; exact va_up_self _ _ _
      · rw [va_up_ne _ _ e]; exact hf j (by omega)
  refine ks_of (by decide) rfl rfl (Nat.le_of_ble_eq_true rfl) ?_
  show ks_X l G mX16_shaBlock (d + 1) 0 [(0, .ref 290), (1, .ref y), (2, .int (nI b))] [] S _
  refine ks_iconst (x := nI 0) dX16_shaBlock_0 (by decide) rfl ?_
  refine ks_istore_n dX16_shaBlock_1 (by decide) rfl ?_
  refine ks_sub [(3, _), (0, _), (1, _), (2, _)] rfl ?_
  exact ks_sub [(0, _), (1, _), (2, _), (3, _)] rfl (l1 16 0 S f rfl (ks_up.rf _ _) h293 (fun j hj => absurd hj (Nat.not_lt_zero j)))
