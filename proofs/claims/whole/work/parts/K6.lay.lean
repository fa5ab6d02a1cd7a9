/-! THE REFERENCE: bytes laid one behind another -/
/-- the bytes m lie in the row r; field f of the object is their count -/
def buX (S : ks_S) (V : Nat → Value) (r N f : Nat) (m : List Nat) : Prop := V f = .int (nI m.length) ∧ ∃ g, S.2.2 r = some (kB N g) ∧ kO g ∧ m.length ≤ N ∧ m = bytL g 0 m.length
def buK (S S' : ks_S) (V V' : Nat → Value) (r f : Nat) : Prop := ks_up S S' [290, r] ∧ S'.2.2 290 = some (rfE V') ∧ ∀ k, k ≠ f → V' k = V k
theorem buK.trans {S S1 S2 : ks_S} {V V1 V2 : Nat → Value} {r f : Nat} (h : buK S S1 V V1 r f) (k : buK S1 S2 V1 V2 r f) : buK S S2 V V2 r f := ⟨h.1.trans k.1, k.2.1, fun j h1 => (k.2.2 j h1).trans (h.2.2 j h1)⟩
theorem bytL_app1 {g : Nat → Nat} {m x : List Nat} {v : Nat} (h : m = bytL g 0 m.length) : m ++ [v] = bytL (va_up g m.length v) 0 (m.length + 1) := by
  rw [bytL_spq _ 0 (show m.length ≤ m.length + 1 by omega), Nat.zero_add, Nat.add_sub_cancel_left, bytL_1, va_up_self]
  congr 1
  refine h.trans ?_
  exact bytL_congr (fun j hj => (va_up_ne _ _ (by omega)).symm)
theorem numL_s (v : Int64) (n : Nat) : numL v (n + 1) = numL v n ++ [v.toBitVec.toNat / 256 ^ n % 256] := by
  unfold numL
  rw [List.range_succ, List.map_append]
  rfl
theorem bytL_s (f : Nat → Nat) (i n : Nat) : bytL f i (n + 1) = bytL f i n ++ [f (i + n)] := by
  unfold bytL
  rw [List.range_succ, List.map_append]
  rfl
set_option maxRecDepth 100000 in
set_option maxHeartbeats 800000 in
theorem c_md_layN {l : Launch} {G : ks_G} {d : Nat} {S : ks_S} {V : Nat → Value} {m : List Nat} (hO : S.2.2 290 = some (rfE V)) (hB : buX S V 373 16384 91 m) {v : Int64} {n : Nat} (hn : n ≤ 8) (hf : m.length + n ≤ 16384) : ks_P l G yX16_lay mX16_lay d [.ref 290, .long v, .int (nI n)] S (fun z S' => z = none ∧ ∃ V', buK S S' V V' 373 91 ∧ buX S' V' 373 16384 91 (m ++ numL v n)) := by
  have loop : ∀ (u q : Nat) (S1 : ks_S) (V1 : Nat → Value), q + u = n → buK S S1 V V1 373 91 → buX S1 V1 373 16384 91 (m ++ numL v q) → ks_X l G mX16_lay d 3 [(0, .ref 290), (1, .long v), (3, .int (nI n)), (4, .int (nI q))] [] S1 (fun z S' => z = none ∧ ∃ V', buK S S' V V' 373 91 ∧ buX S' V' 373 16384 91 (m ++ numL v n)) := by
    intro u
    induction u with
    | zero =>
      intro q S1 V1 hq K1 B1
      have o1 := K1.2.1
      refine ks_iload dX16_lay_3 rfl rfl ?_
      refine ks_iload_n dX16_lay_5 rfl rfl ?_
      refine ks_icmp_geN (tgt := 43) (by omega) (by omega) dX16_lay_6 (by decide) rfl (fun h1 => ?_) (fun h1 => absurd h1 (by omega))
      obtain rfl : q = n := hq
      refine ks_ret rfl dX16_lay_43 ?_
      exact ⟨rfl, V1, K1, B1⟩
    | succ u ih =>
      intro q S1 V1 hq K1 B1
      have o1 := K1.2.1
      obtain ⟨vf, g, e1, kg, hl, em⟩ := B1
      obtain ⟨X, eX⟩ : ∃ X, X = m ++ numL v q := ⟨_, rfl⟩
      have lX : X.length = m.length + q := by rw [eX, List.length_append, numL_len]
      rw [← eX] at vf hl em
      refine ks_iload dX16_lay_3 rfl rfl ?_
      refine ks_iload_n dX16_lay_5 rfl rfl ?_
      refine ks_icmp_geN (tgt := 43) (by omega) (by omega) dX16_lay_6 (by decide) rfl (fun h1 => absurd h1 (by omega)) (fun h1 => ?_)
      refine ks_aload_n dX16_lay_9 rfl rfl ?_
      refine ks_getf (T := TX16) (kf := 90) kx_2458 rfl in_X16 cl_X16 (by decide) o1 rfl dX16_lay_10 rfl ?_
      refine ks_aload_n dX16_lay_13 rfl rfl ?_
      refine ks_getf (T := TX16) (kf := 91) kx_2459 rfl in_X16 cl_X16 (by decide) o1 rfl dX16_lay_14 rfl ?_
      refine ks_tv vf ?_
      refine ks_lload_n dX16_lay_17 rfl rfl ?_
      refine ks_bipush (x := nI 8) dX16_lay_18 (by decide) rfl ?_
      refine ks_iload dX16_lay_20 rfl rfl ?_
      refine ks_imul dX16_lay_22 rfl ?_
      refine ks_lushr dX16_lay_23 rfl ?_
      refine ks_l2i dX16_lay_24 rfl ?_
      refine ks_i2b dX16_lay_25 rfl ?_
      refine ks_bastB (i := X.length) (c := v.toBitVec.toNat / 256 ^ q % 256) e1 rfl (by omega) (by decide) ((ks_by_i8 _).trans (ks_by_shr v (by omega))) dX16_lay_26 rfl ?_
      refine ks_aload_n dX16_lay_27 rfl rfl ?_
      refine ks_dup dX16_lay_28 rfl rfl ?_
      refine ks_getf (T := TX16) (kf := 91) kx_2459 rfl in_X16 cl_X16 (by decide) ((ks_set_ne _ _ (by decide)).trans o1) rfl dX16_lay_29 rfl ?_
      refine ks_tv vf ?_
      refine ks_iconst (x := nI 1) dX16_lay_32 (by decide) rfl ?_
      refine ks_addN dX16_lay_33 rfl ?_
      refine ks_putf (T := TX16) (kf := 91) kx_2459 rfl in_X16 tyX16_ok nmX16 cl_X16 (by decide) ((ks_set_ne _ _ (by decide)).trans o1) (Nat.le_of_ble_eq_true rfl) rfl rfl rfl rfl dX16_lay_34 rfl ?_
      refine md_put mdp_91 ?_
      refine ks_incN (c := 1) (e := q + 1) dX16_lay_37 rfl (by decide) rfl (by decide) rfl ?_
      refine ks_sub [(4, _), (0, _), (1, _), (3, _)] rfl ?_
      refine ks_goto (tgt := 3) dX16_lay_40 (by decide) ?_
      have u2 : ks_up S1 (ks_set S1 373 (kB 16384 (va_up g X.length (v.toBitVec.toNat / 256 ^ q % 256)))) [373] := ks_up_set _ _ (by decide)
      refine ks_sub [(0, _), (1, _), (3, _), (4, _)] rfl (ih (q + 1) _ (va_up V1 91 (.int (nI (X.length + 1)))) (by omega) ⟨(K1.1.trans (u2.mono (by decide))).trans (ks_up_set _ _ (by decide)), ks_set_same _ _ _, fun k h => (va_up_ne _ _ h).trans (K1.2.2 k h)⟩ ?_)
      have e9 : m ++ numL v (q + 1) = X ++ [(v.toBitVec.toNat / 256 ^ q % 256)] := by rw [eX, numL_s, List.append_assoc]
      rw [e9]
      exact ⟨by rw [va_up_self, List.length_append]; rfl, va_up g X.length (v.toBitVec.toNat / 256 ^ q % 256), (ks_set_ne _ _ (by decide)).trans (ks_set_same _ _ _), kO_up kg (Nat.mod_lt _ (by decide)), by rw [List.length_append]; show X.length + 1 ≤ _; omega, by rw [List.length_append]; exact bytL_app1 (x := []) em⟩
  refine ks_of (by decide) rfl rfl (Nat.le_of_ble_eq_true rfl) ?_
  show ks_X l G mX16_lay d 0 [(0, .ref 290), (1, .long v), (3, .int (nI n))] [] S _
  refine ks_iconst (x := nI 0) dX16_lay_0 (by decide) rfl ?_
  refine ks_istore dX16_lay_1 (by decide) rfl ?_
  refine ks_sub [(4, _), (0, _), (1, _), (3, _)] rfl ?_
  exact ks_sub [(0, _), (1, _), (3, _), (4, _)] rfl (loop n 0 S V (by omega) ⟨ks_up.rf _ _, hO, fun _ _ => rfl⟩ (by rw [show m ++ numL v 0 = m from List.append_nil _]; exact hB))
set_option maxRecDepth 100000 in
set_option maxHeartbeats 800000 in
theorem c_md_layB {l : Launch} {G : ks_G} {d : Nat} {S : ks_S} {V : Nat → Value} {m : List Nat} (hO : S.2.2 290 = some (rfE V)) (hB : buX S V 373 16384 91 m) {y Ny s n : Nat} {gy : Nat → Nat} (hy : S.2.2 y = some (kB Ny gy)) (ky : kO gy) (hs : s + n ≤ Ny) (hNy : Ny < 2 ^ 28) (hyr : y ≠ 373) (hf : m.length + n ≤ 16384) : ks_P l G yX16_lay_ mX16_lay_ d [.ref 290, .ref y, .int (nI s), .int (nI n)] S (fun z S' => z = none ∧ ∃ V', buK S S' V V' 373 91 ∧ buX S' V' 373 16384 91 (m ++ bytL gy s n)) := by
  have yO : y ≠ 290 := ks_ne hy hO (fun h => by cases h)
  have loop : ∀ (u q : Nat) (S1 : ks_S) (V1 : Nat → Value), q + u = n → buK S S1 V V1 373 91 → buX S1 V1 373 16384 91 (m ++ bytL gy s q) → ks_X l G mX16_lay_ d 3 [(0, .ref 290), (1, .ref y), (2, .int (nI s)), (3, .int (nI n)), (4, .int (nI q))] [] S1 (fun z S' => z = none ∧ ∃ V', buK S S' V V' 373 91 ∧ buX S' V' 373 16384 91 (m ++ bytL gy s n)) := by
    intro u
    induction u with
    | zero =>
      intro q S1 V1 hq K1 B1
      have o1 := K1.2.1
      refine ks_iload dX16_lay__3 rfl rfl ?_
      refine ks_iload_n dX16_lay__5 rfl rfl ?_
      refine ks_icmp_geN (tgt := 40) (by omega) (by omega) dX16_lay__6 (by decide) rfl (fun h1 => ?_) (fun h1 => absurd h1 (by omega))
      obtain rfl : q = n := hq
      refine ks_ret rfl dX16_lay__40 ?_
      exact ⟨rfl, V1, K1, B1⟩
    | succ u ih =>
      intro q S1 V1 hq K1 B1
      have o1 := K1.2.1
      obtain ⟨vf, g, e1, kg, hl, em⟩ := B1
      obtain ⟨X, eX⟩ : ∃ X, X = m ++ bytL gy s q := ⟨_, rfl⟩
      have lX : X.length = m.length + q := by rw [eX, List.length_append, bytL_len]
      rw [← eX] at vf hl em
      have y1 := K1.1.at hy (by simp only [List.mem_cons, List.not_mem_nil, or_false, not_or]; exact ⟨yO, hyr⟩)
      refine ks_iload dX16_lay__3 rfl rfl ?_
      refine ks_iload_n dX16_lay__5 rfl rfl ?_
      refine ks_icmp_geN (tgt := 40) (by omega) (by omega) dX16_lay__6 (by decide) rfl (fun h1 => absurd h1 (by omega)) (fun h1 => ?_)
      refine ks_aload_n dX16_lay__9 rfl rfl ?_
      refine ks_getf (T := TX16) (kf := 90) kx_2458 rfl in_X16 cl_X16 (by decide) o1 rfl dX16_lay__10 rfl ?_
      refine ks_aload_n dX16_lay__13 rfl rfl ?_
      refine ks_getf (T := TX16) (kf := 91) kx_2459 rfl in_X16 cl_X16 (by decide) o1 rfl dX16_lay__14 rfl ?_
      refine ks_tv vf ?_
      refine ks_aload_n dX16_lay__17 rfl rfl ?_
      refine ks_iload_n dX16_lay__18 rfl rfl ?_
      refine ks_iload dX16_lay__19 rfl rfl ?_
      refine ks_addN dX16_lay__21 rfl ?_
      refine ks_baldB (i := s + q) y1 rfl (by omega) (by omega) dX16_lay__22 rfl ?_
      refine ks_bastB (i := X.length) (c := gy (s + q)) e1 rfl (by omega) (by decide) (ks_by_b (ky _)) dX16_lay__23 rfl ?_
      refine ks_aload_n dX16_lay__24 rfl rfl ?_
      refine ks_dup dX16_lay__25 rfl rfl ?_
      refine ks_getf (T := TX16) (kf := 91) kx_2459 rfl in_X16 cl_X16 (by decide) ((ks_set_ne _ _ (by decide)).trans o1) rfl dX16_lay__26 rfl ?_
      refine ks_tv vf ?_
      refine ks_iconst (x := nI 1) dX16_lay__29 (by decide) rfl ?_
      refine ks_addN dX16_lay__30 rfl ?_
      refine ks_putf (T := TX16) (kf := 91) kx_2459 rfl in_X16 tyX16_ok nmX16 cl_X16 (by decide) ((ks_set_ne _ _ (by decide)).trans o1) (Nat.le_of_ble_eq_true rfl) rfl rfl rfl rfl dX16_lay__31 rfl ?_
      refine md_put mdp_91 ?_
      refine ks_incN (c := 1) (e := q + 1) dX16_lay__34 rfl (by decide) rfl (by decide) rfl ?_
      refine ks_sub [(4, _), (0, _), (1, _), (2, _), (3, _)] rfl ?_
      refine ks_goto (tgt := 3) dX16_lay__37 (by decide) ?_
      have u2 : ks_up S1 (ks_set S1 373 (kB 16384 (va_up g X.length (gy (s + q))))) [373] := ks_up_set _ _ (by decide)
      refine ks_sub [(0, _), (1, _), (2, _), (3, _), (4, _)] rfl (ih (q + 1) _ (va_up V1 91 (.int (nI (X.length + 1)))) (by omega) ⟨(K1.1.trans (u2.mono (by decide))).trans (ks_up_set _ _ (by decide)), ks_set_same _ _ _, fun k h => (va_up_ne _ _ h).trans (K1.2.2 k h)⟩ ?_)
      have e9 : m ++ bytL gy s (q + 1) = X ++ [(gy (s + q))] := by rw [eX, bytL_s, List.append_assoc]
      rw [e9]
      exact ⟨by rw [va_up_self, List.length_append]; rfl, va_up g X.length (gy (s + q)), (ks_set_ne _ _ (by decide)).trans (ks_set_same _ _ _), kO_up kg (ky _), by rw [List.length_append]; show X.length + 1 ≤ _; omega, by rw [List.length_append]; exact bytL_app1 (x := []) em⟩
  refine ks_of (by decide) rfl rfl (Nat.le_of_ble_eq_true rfl) ?_
  show ks_X l G mX16_lay_ d 0 [(0, .ref 290), (1, .ref y), (2, .int (nI s)), (3, .int (nI n))] [] S _
  refine ks_iconst (x := nI 0) dX16_lay__0 (by decide) rfl ?_
  refine ks_istore dX16_lay__1 (by decide) rfl ?_
  refine ks_sub [(4, _), (0, _), (1, _), (2, _), (3, _)] rfl ?_
  exact ks_sub [(0, _), (1, _), (2, _), (3, _), (4, _)] rfl (loop n 0 S V (by omega) ⟨ks_up.rf _ _, hO, fun _ _ => rfl⟩ (by rw [show m ++ bytL gy s 0 = m from List.append_nil _]; exact hB))
set_option maxRecDepth 100000 in
set_option maxHeartbeats 800000 in
theorem c_md_layCount {l : Launch} {G : ks_G} {d : Nat} {S : ks_S} {V : Nat → Value} {m : List Nat} (hO : S.2.2 290 = some (rfE V)) (hB : buX S V 373 16384 91 m) {n : Nat} (hn : n < 65536) (hf : m.length + 3 ≤ 16384) : ks_P l G yX16_layCount mX16_layCount (d + 1) [.ref 290, .long (lN n)] S (fun z S' => z = none ∧ ∃ V', buK S S' V V' 373 91 ∧ buX S' V' 373 16384 91 (m ++ cntL n)) := by
  refine ks_of (by decide) rfl rfl (Nat.le_of_ble_eq_true rfl) ?_
  show ks_X l G mX16_layCount (d + 1) 0 [(0, .ref 290), (1, .long (lN n))] [] S _
  refine ks_lload_n dX16_layCount_0 rfl rfl ?_
  refine ks_ldc2 dX16_layCount_1 kx_1983 rfl ?_
  refine ks_tl (y := lN 253) rfl ?_
  refine ks_lif_geN (tgt := 17) (by omega) (by decide) dX16_layCount_4 rfl dX16_layCount_5 (by decide) rfl (fun h1 => ?_) (fun h1 => ?_)
  · refine ks_aload_n dX16_layCount_17 rfl rfl ?_
    refine ks_ldc2 dX16_layCount_18 kx_1983 rfl ?_
    refine ks_tl (y := lN 253) rfl ?_
    refine ks_iconst (x := nI 1) dX16_layCount_21 (by decide) rfl ?_
    refine ks_callV (n := 2) (M' := mX16_lay) (c_md_layN (d := d) hO hB (v := lN 253) (n := 1) (by decide) (by omega)) hO cl_X16 rfl kx_2272 kx_2274 kxp_111 kx_30 kx_2275 (by decide +kernel) rfl (by decide) (Nat.le_of_ble_eq_true rfl) rfl dX16_layCount_22 rfl (fun z1 S1 y1 => ?_)
    obtain ⟨rfl, V1, K1, B1⟩ := y1
    refine ks_aload_n dX16_layCount_25 rfl rfl ?_
    refine ks_lload_n dX16_layCount_26 rfl rfl ?_
    refine ks_iconst (x := nI 2) dX16_layCount_27 (by decide) rfl ?_
    refine ks_callV (n := 2) (M' := mX16_lay) (c_md_layN (d := d) K1.2.1 B1 (v := lN n) (n := 2) (by decide) (by rw [List.length_append, numL_len]; omega)) K1.2.1 cl_X16 rfl kx_2272 kx_2274 kxp_111 kx_30 kx_2275 (by decide +kernel) rfl (by decide) (Nat.le_of_ble_eq_true rfl) rfl dX16_layCount_28 rfl (fun z2 S2 y2 => ?_)
    obtain ⟨rfl, V2, K2, B2⟩ := y2
    refine ks_ret rfl dX16_layCount_31 ?_
    have ec : cntL n = numL (lN 253) 1 ++ numL (lN n) 2 := by
      unfold cntL numL
      rw [if_neg (by omega)]
      show [253, n % 256, n / 256 % 256] = [(lN 253).toBitVec.toNat / 256 ^ 0 % 256, (lN n).toBitVec.toNat / 256 ^ 0 % 256, (lN n).toBitVec.toNat / 256 ^ 1 % 256]
      rw [wb_tn (show 253 < 2 ^ 64 by decide), wb_tn (show n < 2 ^ 64 by omega)]
      simp
    rw [ec, ← List.append_assoc]
    exact ⟨rfl, V2, K1.trans K2, B2⟩
  · refine ks_aload_n dX16_layCount_8 rfl rfl ?_
    refine ks_lload_n dX16_layCount_9 rfl rfl ?_
    refine ks_iconst (x := nI 1) dX16_layCount_10 (by decide) rfl ?_
    refine ks_callV (n := 2) (M' := mX16_lay) (c_md_layN (d := d) hO hB (v := lN n) (n := 1) (by decide) (by omega)) hO cl_X16 rfl kx_2272 kx_2274 kxp_111 kx_30 kx_2275 (by decide +kernel) rfl (by decide) (Nat.le_of_ble_eq_true rfl) rfl dX16_layCount_11 rfl (fun z1 S1 y1 => ?_)
    obtain ⟨rfl, V1, K1, B1⟩ := y1
    refine ks_goto (tgt := 31) dX16_layCount_14 (by decide) ?_
    refine ks_ret rfl dX16_layCount_31 ?_
    have ec : cntL n = numL (lN n) 1 := by
      unfold cntL numL
      rw [if_pos (by omega)]
      show [n] = [(lN n).toBitVec.toNat / 256 ^ 0 % 256]
      rw [wb_tn (by omega), Nat.pow_zero, Nat.div_one, Nat.mod_eq_of_lt (by omega)]
    rw [ec]
    exact ⟨rfl, V1, K1, B1⟩
set_option maxRecDepth 100000 in
set_option maxHeartbeats 800000 in
theorem c_md_makeN {l : Launch} {G : ks_G} {d : Nat} {S : ks_S} {V : Nat → Value} {m : List Nat} (hO : S.2.2 290 = some (rfE V)) (hB : buX S V 529 131072 107 m) {v : Int64} {n : Nat} (hn : n ≤ 8) (hf : m.length + n ≤ 131072) : ks_P l G yX16_make mX16_make d [.ref 290, .long v, .int (nI n)] S (fun z S' => z = none ∧ ∃ V', buK S S' V V' 529 107 ∧ buX S' V' 529 131072 107 (m ++ numL v n)) := by
  have loop : ∀ (u q : Nat) (S1 : ks_S) (V1 : Nat → Value), q + u = n → buK S S1 V V1 529 107 → buX S1 V1 529 131072 107 (m ++ numL v q) → ks_X l G mX16_make d 3 [(0, .ref 290), (1, .long v), (3, .int (nI n)), (4, .int (nI q))] [] S1 (fun z S' => z = none ∧ ∃ V', buK S S' V V' 529 107 ∧ buX S' V' 529 131072 107 (m ++ numL v n)) := by
    intro u
    induction u with
    | zero =>
      intro q S1 V1 hq K1 B1
      have o1 := K1.2.1
      refine ks_iload dX16_make_3 rfl rfl ?_
      refine ks_iload_n dX16_make_5 rfl rfl ?_
      refine ks_icmp_geN (tgt := 43) (by omega) (by omega) dX16_make_6 (by decide) rfl (fun h1 => ?_) (fun h1 => absurd h1 (by omega))
      obtain rfl : q = n := hq
      refine ks_ret rfl dX16_make_43 ?_
      exact ⟨rfl, V1, K1, B1⟩
    | succ u ih =>
      intro q S1 V1 hq K1 B1
      have o1 := K1.2.1
      obtain ⟨vf, g, e1, kg, hl, em⟩ := B1
      obtain ⟨X, eX⟩ : ∃ X, X = m ++ numL v q := ⟨_, rfl⟩
      have lX : X.length = m.length + q := by rw [eX, List.length_append, numL_len]
      rw [← eX] at vf hl em
      refine ks_iload dX16_make_3 rfl rfl ?_
      refine ks_iload_n dX16_make_5 rfl rfl ?_
      refine ks_icmp_geN (tgt := 43) (by omega) (by omega) dX16_make_6 (by decide) rfl (fun h1 => absurd h1 (by omega)) (fun h1 => ?_)
      refine ks_aload_n dX16_make_9 rfl rfl ?_
      refine ks_getf (T := TX16) (kf := 106) kx_2474 rfl in_X16 cl_X16 (by decide) o1 rfl dX16_make_10 rfl ?_
      refine ks_aload_n dX16_make_13 rfl rfl ?_
      refine ks_getf (T := TX16) (kf := 107) kx_2475 rfl in_X16 cl_X16 (by decide) o1 rfl dX16_make_14 rfl ?_
      refine ks_tv vf ?_
      refine ks_lload_n dX16_make_17 rfl rfl ?_
      refine ks_bipush (x := nI 8) dX16_make_18 (by decide) rfl ?_
      refine ks_iload dX16_make_20 rfl rfl ?_
      refine ks_imul dX16_make_22 rfl ?_
      refine ks_lushr dX16_make_23 rfl ?_
      refine ks_l2i dX16_make_24 rfl ?_
      refine ks_i2b dX16_make_25 rfl ?_
      refine ks_bastB (i := X.length) (c := v.toBitVec.toNat / 256 ^ q % 256) e1 rfl (by omega) (by decide) ((ks_by_i8 _).trans (ks_by_shr v (by omega))) dX16_make_26 rfl ?_
      refine ks_aload_n dX16_make_27 rfl rfl ?_
      refine ks_dup dX16_make_28 rfl rfl ?_
      refine ks_getf (T := TX16) (kf := 107) kx_2475 rfl in_X16 cl_X16 (by decide) ((ks_set_ne _ _ (by decide)).trans o1) rfl dX16_make_29 rfl ?_
      refine ks_tv vf ?_
      refine ks_iconst (x := nI 1) dX16_make_32 (by decide) rfl ?_
      refine ks_addN dX16_make_33 rfl ?_
      refine ks_putf (T := TX16) (kf := 107) kx_2475 rfl in_X16 tyX16_ok nmX16 cl_X16 (by decide) ((ks_set_ne _ _ (by decide)).trans o1) (Nat.le_of_ble_eq_true rfl) rfl rfl rfl rfl dX16_make_34 rfl ?_
      refine md_put mdp_107 ?_
      refine ks_incN (c := 1) (e := q + 1) dX16_make_37 rfl (by decide) rfl (by decide) rfl ?_
      refine ks_sub [(4, _), (0, _), (1, _), (3, _)] rfl ?_
      refine ks_goto (tgt := 3) dX16_make_40 (by decide) ?_
      have u2 : ks_up S1 (ks_set S1 529 (kB 131072 (va_up g X.length (v.toBitVec.toNat / 256 ^ q % 256)))) [529] := ks_up_set _ _ (by decide)
      refine ks_sub [(0, _), (1, _), (3, _), (4, _)] rfl (ih (q + 1) _ (va_up V1 107 (.int (nI (X.length + 1)))) (by omega) ⟨(K1.1.trans (u2.mono (by decide))).trans (ks_up_set _ _ (by decide)), ks_set_same _ _ _, fun k h => (va_up_ne _ _ h).trans (K1.2.2 k h)⟩ ?_)
      have e9 : m ++ numL v (q + 1) = X ++ [(v.toBitVec.toNat / 256 ^ q % 256)] := by rw [eX, numL_s, List.append_assoc]
      rw [e9]
      exact ⟨by rw [va_up_self, List.length_append]; rfl, va_up g X.length (v.toBitVec.toNat / 256 ^ q % 256), (ks_set_ne _ _ (by decide)).trans (ks_set_same _ _ _), kO_up kg (Nat.mod_lt _ (by decide)), by rw [List.length_append]; show X.length + 1 ≤ _; omega, by rw [List.length_append]; exact bytL_app1 (x := []) em⟩
  refine ks_of (by decide) rfl rfl (Nat.le_of_ble_eq_true rfl) ?_
  show ks_X l G mX16_make d 0 [(0, .ref 290), (1, .long v), (3, .int (nI n))] [] S _
  refine ks_iconst (x := nI 0) dX16_make_0 (by decide) rfl ?_
  refine ks_istore dX16_make_1 (by decide) rfl ?_
  refine ks_sub [(4, _), (0, _), (1, _), (3, _)] rfl ?_
  exact ks_sub [(0, _), (1, _), (3, _), (4, _)] rfl (loop n 0 S V (by omega) ⟨ks_up.rf _ _, hO, fun _ _ => rfl⟩ (by rw [show m ++ numL v 0 = m from List.append_nil _]; exact hB))
set_option maxRecDepth 100000 in
set_option maxHeartbeats 800000 in
theorem c_md_makeB {l : Launch} {G : ks_G} {d : Nat} {S : ks_S} {V : Nat → Value} {m : List Nat} (hO : S.2.2 290 = some (rfE V)) (hB : buX S V 529 131072 107 m) {y Ny s n : Nat} {gy : Nat → Nat} (hy : S.2.2 y = some (kB Ny gy)) (ky : kO gy) (hs : s + n ≤ Ny) (hNy : Ny < 2 ^ 28) (hyr : y ≠ 529) (hf : m.length + n ≤ 131072) : ks_P l G yX16_make_ mX16_make_ d [.ref 290, .ref y, .int (nI s), .int (nI n)] S (fun z S' => z = none ∧ ∃ V', buK S S' V V' 529 107 ∧ buX S' V' 529 131072 107 (m ++ bytL gy s n)) := by
  have yO : y ≠ 290 := ks_ne hy hO (fun h => by cases h)
  have loop : ∀ (u q : Nat) (S1 : ks_S) (V1 : Nat → Value), q + u = n → buK S S1 V V1 529 107 → buX S1 V1 529 131072 107 (m ++ bytL gy s q) → ks_X l G mX16_make_ d 3 [(0, .ref 290), (1, .ref y), (2, .int (nI s)), (3, .int (nI n)), (4, .int (nI q))] [] S1 (fun z S' => z = none ∧ ∃ V', buK S S' V V' 529 107 ∧ buX S' V' 529 131072 107 (m ++ bytL gy s n)) := by
    intro u
    induction u with
    | zero =>
      intro q S1 V1 hq K1 B1
      have o1 := K1.2.1
      refine ks_iload dX16_make__3 rfl rfl ?_
      refine ks_iload_n dX16_make__5 rfl rfl ?_
      refine ks_icmp_geN (tgt := 40) (by omega) (by omega) dX16_make__6 (by decide) rfl (fun h1 => ?_) (fun h1 => absurd h1 (by omega))
      obtain rfl : q = n := hq
      refine ks_ret rfl dX16_make__40 ?_
      exact ⟨rfl, V1, K1, B1⟩
    | succ u ih =>
      intro q S1 V1 hq K1 B1
      have o1 := K1.2.1
      obtain ⟨vf, g, e1, kg, hl, em⟩ := B1
      obtain ⟨X, eX⟩ : ∃ X, X = m ++ bytL gy s q := ⟨_, rfl⟩
      have lX : X.length = m.length + q := by rw [eX, List.length_append, bytL_len]
      rw [← eX] at vf hl em
      have y1 := K1.1.at hy (by simp only [List.mem_cons, List.not_mem_nil, or_false, not_or]; exact ⟨yO, hyr⟩)
      refine ks_iload dX16_make__3 rfl rfl ?_
      refine ks_iload_n dX16_make__5 rfl rfl ?_
      refine ks_icmp_geN (tgt := 40) (by omega) (by omega) dX16_make__6 (by decide) rfl (fun h1 => absurd h1 (by omega)) (fun h1 => ?_)
      refine ks_aload_n dX16_make__9 rfl rfl ?_
      refine ks_getf (T := TX16) (kf := 106) kx_2474 rfl in_X16 cl_X16 (by decide) o1 rfl dX16_make__10 rfl ?_
      refine ks_aload_n dX16_make__13 rfl rfl ?_
      refine ks_getf (T := TX16) (kf := 107) kx_2475 rfl in_X16 cl_X16 (by decide) o1 rfl dX16_make__14 rfl ?_
      refine ks_tv vf ?_
      refine ks_aload_n dX16_make__17 rfl rfl ?_
      refine ks_iload_n dX16_make__18 rfl rfl ?_
      refine ks_iload dX16_make__19 rfl rfl ?_
      refine ks_addN dX16_make__21 rfl ?_
      refine ks_baldB (i := s + q) y1 rfl (by omega) (by omega) dX16_make__22 rfl ?_
      refine ks_bastB (i := X.length) (c := gy (s + q)) e1 rfl (by omega) (by decide) (ks_by_b (ky _)) dX16_make__23 rfl ?_
      refine ks_aload_n dX16_make__24 rfl rfl ?_
      refine ks_dup dX16_make__25 rfl rfl ?_
      refine ks_getf (T := TX16) (kf := 107) kx_2475 rfl in_X16 cl_X16 (by decide) ((ks_set_ne _ _ (by decide)).trans o1) rfl dX16_make__26 rfl ?_
      refine ks_tv vf ?_
      refine ks_iconst (x := nI 1) dX16_make__29 (by decide) rfl ?_
      refine ks_addN dX16_make__30 rfl ?_
      refine ks_putf (T := TX16) (kf := 107) kx_2475 rfl in_X16 tyX16_ok nmX16 cl_X16 (by decide) ((ks_set_ne _ _ (by decide)).trans o1) (Nat.le_of_ble_eq_true rfl) rfl rfl rfl rfl dX16_make__31 rfl ?_
      refine md_put mdp_107 ?_
      refine ks_incN (c := 1) (e := q + 1) dX16_make__34 rfl (by decide) rfl (by decide) rfl ?_
      refine ks_sub [(4, _), (0, _), (1, _), (2, _), (3, _)] rfl ?_
      refine ks_goto (tgt := 3) dX16_make__37 (by decide) ?_
      have u2 : ks_up S1 (ks_set S1 529 (kB 131072 (va_up g X.length (gy (s + q))))) [529] := ks_up_set _ _ (by decide)
      refine ks_sub [(0, _), (1, _), (2, _), (3, _), (4, _)] rfl (ih (q + 1) _ (va_up V1 107 (.int (nI (X.length + 1)))) (by omega) ⟨(K1.1.trans (u2.mono (by decide))).trans (ks_up_set _ _ (by decide)), ks_set_same _ _ _, fun k h => (va_up_ne _ _ h).trans (K1.2.2 k h)⟩ ?_)
      have e9 : m ++ bytL gy s (q + 1) = X ++ [(gy (s + q))] := by rw [eX, bytL_s, List.append_assoc]
      rw [e9]
      exact ⟨by rw [va_up_self, List.length_append]; rfl, va_up g X.length (gy (s + q)), (ks_set_ne _ _ (by decide)).trans (ks_set_same _ _ _), kO_up kg (ky _), by rw [List.length_append]; show X.length + 1 ≤ _; omega, by rw [List.length_append]; exact bytL_app1 (x := []) em⟩
  refine ks_of (by decide) rfl rfl (Nat.le_of_ble_eq_true rfl) ?_
  show ks_X l G mX16_make_ d 0 [(0, .ref 290), (1, .ref y), (2, .int (nI s)), (3, .int (nI n))] [] S _
  refine ks_iconst (x := nI 0) dX16_make__0 (by decide) rfl ?_
  refine ks_istore dX16_make__1 (by decide) rfl ?_
  refine ks_sub [(4, _), (0, _), (1, _), (2, _), (3, _)] rfl ?_
  exact ks_sub [(0, _), (1, _), (2, _), (3, _), (4, _)] rfl (loop n 0 S V (by omega) ⟨ks_up.rf _ _, hO, fun _ _ => rfl⟩ (by rw [show m ++ bytL gy s 0 = m from List.append_nil _]; exact hB))
set_option maxRecDepth 100000 in
set_option maxHeartbeats 800000 in
theorem c_md_makeCount {l : Launch} {G : ks_G} {d : Nat} {S : ks_S} {V : Nat → Value} {m : List Nat} (hO : S.2.2 290 = some (rfE V)) (hB : buX S V 529 131072 107 m) {n : Nat} (hn : n < 65536) (hf : m.length + 3 ≤ 131072) : ks_P l G yX16_makeCount mX16_makeCount (d + 1) [.ref 290, .int (nI n)] S (fun z S' => z = none ∧ ∃ V', buK S S' V V' 529 107 ∧ buX S' V' 529 131072 107 (m ++ cntL n)) := by
  refine ks_of (by decide) rfl rfl (Nat.le_of_ble_eq_true rfl) ?_
  show ks_X l G mX16_makeCount (d + 1) 0 [(0, .ref 290), (1, .int (nI n))] [] S _
  refine ks_iload_n dX16_makeCount_0 rfl rfl ?_
  refine ks_sipush (x := nI 253) dX16_makeCount_1 (by decide) rfl ?_
  refine ks_icmp_geN (tgt := 17) (by omega) (by decide) dX16_makeCount_4 (by decide) rfl (fun h1 => ?_) (fun h1 => ?_)
  · refine ks_aload_n dX16_makeCount_17 rfl rfl ?_
    refine ks_ldc2 dX16_makeCount_18 kx_1983 rfl ?_
    refine ks_tl (y := lN 253) rfl ?_
    refine ks_iconst (x := nI 1) dX16_makeCount_21 (by decide) rfl ?_
    refine ks_callV (n := 2) (M' := mX16_make) (c_md_makeN (d := d) hO hB (v := lN 253) (n := 1) (by decide) (by omega)) hO cl_X16 rfl kx_1975 kx_1977 kxp_58 kx_30 kx_1978 (by decide +kernel) rfl (by decide) (Nat.le_of_ble_eq_true rfl) rfl dX16_makeCount_22 rfl (fun z1 S1 y1 => ?_)
    obtain ⟨rfl, V1, K1, B1⟩ := y1
    refine ks_aload_n dX16_makeCount_25 rfl rfl ?_
    refine ks_iload_n dX16_makeCount_26 rfl rfl ?_
    refine ks_i2lN (by omega) dX16_makeCount_27 rfl ?_
    refine ks_iconst (x := nI 2) dX16_makeCount_28 (by decide) rfl ?_
    refine ks_callV (n := 2) (M' := mX16_make) (c_md_makeN (d := d) K1.2.1 B1 (v := lN n) (n := 2) (by decide) (by rw [List.length_append, numL_len]; omega)) K1.2.1 cl_X16 rfl kx_1975 kx_1977 kxp_58 kx_30 kx_1978 (by decide +kernel) rfl (by decide) (Nat.le_of_ble_eq_true rfl) rfl dX16_makeCount_29 rfl (fun z2 S2 y2 => ?_)
    obtain ⟨rfl, V2, K2, B2⟩ := y2
    refine ks_ret rfl dX16_makeCount_32 ?_
    have ec : cntL n = numL (lN 253) 1 ++ numL (lN n) 2 := by
      unfold cntL numL
      rw [if_neg (by omega)]
      show [253, n % 256, n / 256 % 256] = [(lN 253).toBitVec.toNat / 256 ^ 0 % 256, (lN n).toBitVec.toNat / 256 ^ 0 % 256, (lN n).toBitVec.toNat / 256 ^ 1 % 256]
      rw [wb_tn (show 253 < 2 ^ 64 by decide), wb_tn (show n < 2 ^ 64 by omega)]
      simp
    rw [ec, ← List.append_assoc]
    exact ⟨rfl, V2, K1.trans K2, B2⟩
  · refine ks_aload_n dX16_makeCount_7 rfl rfl ?_
    refine ks_iload_n dX16_makeCount_8 rfl rfl ?_
    refine ks_i2lN (by omega) dX16_makeCount_9 rfl ?_
    refine ks_iconst (x := nI 1) dX16_makeCount_10 (by decide) rfl ?_
    refine ks_callV (n := 2) (M' := mX16_make) (c_md_makeN (d := d) hO hB (v := lN n) (n := 1) (by decide) (by omega)) hO cl_X16 rfl kx_1975 kx_1977 kxp_58 kx_30 kx_1978 (by decide +kernel) rfl (by decide) (Nat.le_of_ble_eq_true rfl) rfl dX16_makeCount_11 rfl (fun z1 S1 y1 => ?_)
    obtain ⟨rfl, V1, K1, B1⟩ := y1
    refine ks_goto (tgt := 32) dX16_makeCount_14 (by decide) ?_
    refine ks_ret rfl dX16_makeCount_32 ?_
    have ec : cntL n = numL (lN n) 1 := by
      unfold cntL numL
      rw [if_pos (by omega)]
      show [n] = [(lN n).toBitVec.toNat / 256 ^ 0 % 256]
      rw [wb_tn (by omega), Nat.pow_zero, Nat.div_one, Nat.mod_eq_of_lt (by omega)]
    rw [ec]
    exact ⟨rfl, V1, K1, B1⟩
