/-! THE JUDGE: the draft -/
theorem dxL_me {b x : Nat} (h : x ∈ dxL b) : b ≤ x ∧ x ≤ b + 18 := by
  unfold dxL at h
  obtain ⟨k, hk, rfl⟩ := List.mem_map.mp h
  have := List.mem_range.mp hk
  omega
theorem dxL_in {b x : Nat} (h : b ≤ x ∧ x ≤ b + 18) : x ∈ dxL b := List.mem_map.mpr ⟨x - b, List.mem_range.mpr (by omega), by omega⟩
theorem dfS.put {S S1 : ks_S} {Ds : Nat → dTx} {i : Nat} {D : dTx} (h : dfS S Ds) (hi : i < 12) (hu : ks_up S S1 (dxL (56 + 19 * i))) (hD : dx_ok S1 (56 + 19 * i) D) : dfS S1 (va_up Ds i D) := by
  refine ⟨hu.at h.1 (fun q => by have := dxL_me q; omega), fun j hj => ?_⟩
  by_cases e : j = i
  · subst e; rw [va_up_self]; exact hD
  · rw [va_up_ne _ _ e]; exact (h.2 j hj).up hu (fun x hx => by have := dxL_me hx; omega)
theorem dx_len {S : ks_S} {b : Nat} {D : dTx} (h : dx_ok S b D) : ∃ sz id ix sq vl sc, dxU S b D.2.2.1.length D.2.2.2.length D.1 D.2.1 sz id ix sq vl sc ∧ D.2.2.1 = (List.range D.2.2.1.length).map (dxI id ix sc sz sq) ∧ D.2.2.2 = (List.range D.2.2.2.length).map (dxO vl sc sz) := by
  obtain ⟨k, m, sz, id, ix, sq, vl, sc, hU, h1, h2⟩ := h
  have e1 : D.2.2.1.length = k := by rw [h1]; simp
  have e2 : D.2.2.2.length = m := by rw [h2]; simp
  rw [e1, e2]
  exact ⟨sz, id, ix, sq, vl, sc, hU, h1, h2⟩
set_option maxRecDepth 100000 in
set_option maxHeartbeats 800000 in
theorem c_jd_open {l : Launch} {G : ks_G} {d : Nat} {S : ks_S} {dc dp : Nat} {dt : Int64} {rs : Int32} (h0 : S.2.2 0 = some (jdO dc dp dt rs)) {n best : Nat} {cc : Int32} {tk : Int64} {B : Nat → Bk} (hX : chX S n best cc tk B) {x : Nat} (hx : x < n) {v : Int64} (hv : unL v = false) : ks_P l G yX11_open mX11_open (d + 1) [.ref 0, .int (nI x), .long v] S (fun z S' => z = none ∧ S' = ks_set S 0 (jdO 0 x v rs)) := by
  have h0 : S.2.2 0 = some (.inr (14, [.ref 1, .ref 3, .ref 5, .ref 7, .ref 14, .ref 20, .ref 27, .ref 41, .ref 52, .ref 53, .ref 54, .ref 55, .int (nI dc), .int (nI dp), .long dt, .int rs])) := h0
  obtain ⟨hO, ⟨bf, h42, hbf⟩, hB, hn60⟩ := id hX
  refine ks_of (by decide) rfl rfl (Nat.le_of_ble_eq_true rfl) ?_
  show ks_X l G mX11_open (d + 1) 0 [(0, .ref 0), (1, .int (nI x)), (2, .long v)] [] S _
  refine ks_iload_n dX11_open_0 rfl rfl ?_
  refine ks_iconst (x := (-1)) dX11_open_1 (by decide) rfl ?_
  refine ks_icmp_lt (tgt := 23) dX11_open_2 (by decide) rfl (fun h => absurd h (Int32.not_lt.mpr (Int32.le_trans (by decide : (-1 : Int32) ≤ 0) (nI_nn (by omega))))) (fun _ => ?_)
  refine ks_iload_n dX11_open_5 rfl rfl ?_
  refine ks_aload_n dX11_open_6 rfl rfl ?_
  refine ks_getf (T := TX11) (kf := 7) kx_1060 rfl in_X11 cl_X11 (by decide) h0 rfl dX11_open_7 rfl ?_
  refine ks_getf (T := TX2) (kf := 3) kx_736 rfl in_X2 cl_X2 (by decide) hO rfl dX11_open_10 rfl ?_
  refine ks_icmp_geN (tgt := 23) (by omega) (by omega) dX11_open_13 (by decide) rfl (fun h2 => absurd h2 (by omega)) (fun h2 => ?_)
  refine ks_lload_n dX11_open_16 rfl rfl ?_
  refine ks_callS (n := 1) (M' := mX11_isNotUnsigned) (c_jd_unsigned (d := d) (v := v)) kx_1259 kx_1260 kx_1 kx_1261 (by decide +kernel) rfl (by decide) (Nat.le_of_ble_eq_true rfl) rfl dX11_open_17 rfl (fun z1 T1 y1 => ?_)
  obtain ⟨rfl, hT1⟩ := y1
  obtain rfl := hT1.symm
  rw [hv]
  refine ks_if_eqZ (tgt := 31) dX11_open_20 (by decide) rfl (fun _ => ?_) (fun h => absurd h (by decide))
  refine ks_aload_n dX11_open_31 rfl rfl ?_
  refine ks_iload_n dX11_open_32 rfl rfl ?_
  refine ks_if_geN (tgt := 46) (by omega) dX11_open_33 (by decide) ?_
  refine ks_iload_n dX11_open_46 rfl rfl ?_
  refine ks_putf (T := TX11) (kf := 13) kx_1066 rfl in_X11 tyX11_ok nmX11 cl_X11 (by decide) h0 (Nat.le_of_ble_eq_true rfl) rfl rfl rfl rfl dX11_open_47 rfl ?_
  refine ks_aload_n dX11_open_50 rfl rfl ?_
  refine ks_lload_n dX11_open_51 rfl rfl ?_
  refine ks_putf (T := TX11) (kf := 14) kx_1067 rfl in_X11 tyX11_ok nmX11 cl_X11 (by decide) (ks_set_same _ _ _) (Nat.le_of_ble_eq_true rfl) rfl rfl rfl rfl dX11_open_52 rfl ?_
  refine ks_aload_n dX11_open_55 rfl rfl ?_
  refine ks_iconst (x := nI 0) dX11_open_56 (by decide) rfl ?_
  refine ks_putf (T := TX11) (kf := 12) kx_1065 rfl in_X11 tyX11_ok nmX11 cl_X11 (by decide) (ks_set_same _ _ _) (Nat.le_of_ble_eq_true rfl) rfl rfl rfl rfl dX11_open_57 rfl ?_
  refine ks_ret rfl dX11_open_60 ?_
  refine ⟨rfl, ?_⟩
  rw [ks_set_set, ks_set_set]
  rfl
set_option maxRecDepth 100000 in
set_option maxHeartbeats 800000 in
theorem c_jd_openB {l : Launch} {G : ks_G} {d : Nat} {S : ks_S} {dc dp : Nat} {dt : Int64} {rs : Int32} (h0 : S.2.2 0 = some (jdO dc dp dt rs)) {n best : Nat} {cc : Int32} {tk : Int64} {B : Nat → Bk} (hX : chX S n best cc tk B) {v : Int64} (hv : unL v = false) : ks_P l G yX11_open mX11_open (d + 1) [.ref 0, .int (-1), .long v] S (fun z S' => z = none ∧ S' = ks_set S 0 (jdO 0 best v rs)) := by
  have h0 : S.2.2 0 = some (.inr (14, [.ref 1, .ref 3, .ref 5, .ref 7, .ref 14, .ref 20, .ref 27, .ref 41, .ref 52, .ref 53, .ref 54, .ref 55, .int (nI dc), .int (nI dp), .long dt, .int rs])) := h0
  obtain ⟨hO, ⟨bf, h42, hbf⟩, hB, hn60⟩ := id hX
  refine ks_of (by decide) rfl rfl (Nat.le_of_ble_eq_true rfl) ?_
  show ks_X l G mX11_open (d + 1) 0 [(0, .ref 0), (1, .int (-1)), (2, .long v)] [] S _
  refine ks_iload_n dX11_open_0 rfl rfl ?_
  refine ks_iconst (x := (-1)) dX11_open_1 (by decide) rfl ?_
  refine ks_icmp_lt (tgt := 23) dX11_open_2 (by decide) rfl (fun h => absurd h (by decide)) (fun _ => ?_)
  refine ks_iload_n dX11_open_5 rfl rfl ?_
  refine ks_aload_n dX11_open_6 rfl rfl ?_
  refine ks_getf (T := TX11) (kf := 7) kx_1060 rfl in_X11 cl_X11 (by decide) h0 rfl dX11_open_7 rfl ?_
  refine ks_getf (T := TX2) (kf := 3) kx_736 rfl in_X2 cl_X2 (by decide) hO rfl dX11_open_10 rfl ?_
  refine ks_icmp_ge (tgt := 23) dX11_open_13 (by decide) rfl (fun h => absurd h (Int32.not_le.mpr (Int32.lt_of_lt_of_le (by decide : (-1 : Int32) < 0) (nI_nn (by omega : n < 2 ^ 31))))) (fun _ => ?_)
  refine ks_lload_n dX11_open_16 rfl rfl ?_
  refine ks_callS (n := 1) (M' := mX11_isNotUnsigned) (c_jd_unsigned (d := d) (v := v)) kx_1259 kx_1260 kx_1 kx_1261 (by decide +kernel) rfl (by decide) (Nat.le_of_ble_eq_true rfl) rfl dX11_open_17 rfl (fun z1 T1 y1 => ?_)
  obtain ⟨rfl, hT1⟩ := y1
  obtain rfl := hT1.symm
  rw [hv]
  refine ks_if_eqZ (tgt := 31) dX11_open_20 (by decide) rfl (fun _ => ?_) (fun h => absurd h (by decide))
  refine ks_aload_n dX11_open_31 rfl rfl ?_
  refine ks_iload_n dX11_open_32 rfl rfl ?_
  refine ks_if_ge (tgt := 46) dX11_open_33 (by decide) rfl (fun h => absurd h (by decide)) (fun _ => ?_)
  refine ks_aload_n dX11_open_36 rfl rfl ?_
  refine ks_getf (T := TX11) (kf := 7) kx_1060 rfl in_X11 cl_X11 (by decide) h0 rfl dX11_open_37 rfl ?_
  refine ks_getf (T := TX2) (kf := 4) kx_737 rfl in_X2 cl_X2 (by decide) hO rfl dX11_open_40 rfl ?_
  refine ks_goto (tgt := 47) dX11_open_43 (by decide) ?_
  refine ks_putf (T := TX11) (kf := 13) kx_1066 rfl in_X11 tyX11_ok nmX11 cl_X11 (by decide) h0 (Nat.le_of_ble_eq_true rfl) rfl rfl rfl rfl dX11_open_47 rfl ?_
  refine ks_aload_n dX11_open_50 rfl rfl ?_
  refine ks_lload_n dX11_open_51 rfl rfl ?_
  refine ks_putf (T := TX11) (kf := 14) kx_1067 rfl in_X11 tyX11_ok nmX11 cl_X11 (by decide) (ks_set_same _ _ _) (Nat.le_of_ble_eq_true rfl) rfl rfl rfl rfl dX11_open_52 rfl ?_
  refine ks_aload_n dX11_open_55 rfl rfl ?_
  refine ks_iconst (x := nI 0) dX11_open_56 (by decide) rfl ?_
  refine ks_putf (T := TX11) (kf := 12) kx_1065 rfl in_X11 tyX11_ok nmX11 cl_X11 (by decide) (ks_set_same _ _ _) (Nat.le_of_ble_eq_true rfl) rfl rfl rfl rfl dX11_open_57 rfl ?_
  refine ks_ret rfl dX11_open_60 ?_
  refine ⟨rfl, ?_⟩
  rw [ks_set_set, ks_set_set]
  rfl
set_option maxRecDepth 100000 in
set_option maxHeartbeats 800000 in
theorem c_jd_tx {l : Launch} {G : ks_G} {d : Nat} {S : ks_S} {dc dp : Nat} {dt : Int64} {rs : Int32} (h0 : S.2.2 0 = some (jdO dc dp dt rs)) {Ds : Nat → dTx} (hD : dfS S Ds) {v k : Int64} (hv : unL v = false) (hk : unL k = false) (hdc : dc < 12) : ks_P l G yX11_tx mX11_tx (d + 1) [.ref 0, .long v, .long k] S (fun z S' => z = some (.int (nI (dc + 1))) ∧ ks_up S S' (0 :: dxL (56 + 19 * dc)) ∧ S'.2.2 0 = some (jdO (dc + 1) dp dt rs) ∧ dfS S' (va_up Ds dc (v, k, [], []))) := by
  have h0 : S.2.2 0 = some (.inr (14, [.ref 1, .ref 3, .ref 5, .ref 7, .ref 14, .ref 20, .ref 27, .ref 41, .ref 52, .ref 53, .ref 54, .ref 55, .int (nI dc), .int (nI dp), .long dt, .int rs])) := h0
  have h52 := hD.1
  refine ks_of (by decide) rfl rfl (Nat.le_of_ble_eq_true rfl) ?_
  show ks_X l G mX11_tx (d + 1) 0 [(0, .ref 0), (1, .long v), (3, .long k)] [] S _
  refine ks_lload_n dX11_tx_0 rfl rfl ?_
  refine ks_callS (n := 1) (M' := mX11_isNotUnsigned) (c_jd_unsigned (d := d) (v := v)) kx_1259 kx_1260 kx_1 kx_1261 (by decide +kernel) rfl (by decide) (Nat.le_of_ble_eq_true rfl) rfl dX11_tx_1 rfl (fun z1 T1 y1 => ?_)
  obtain ⟨rfl, hT1⟩ := y1
  obtain rfl := hT1.symm
  rw [hv]
  refine ks_if_neZ (tgt := 14) dX11_tx_4 (by decide) rfl (fun h => absurd h (by decide)) (fun _ => ?_)
  refine ks_lload_n dX11_tx_7 rfl rfl ?_
  refine ks_callS (n := 1) (M' := mX11_isNotUnsigned) (c_jd_unsigned (d := d) (v := k)) kx_1259 kx_1260 kx_1 kx_1261 (by decide +kernel) rfl (by decide) (Nat.le_of_ble_eq_true rfl) rfl dX11_tx_8 rfl (fun z1 T1 y1 => ?_)
  obtain ⟨rfl, hT1⟩ := y1
  obtain rfl := hT1.symm
  rw [hk]
  refine ks_if_eqZ (tgt := 22) dX11_tx_11 (by decide) rfl (fun _ => ?_) (fun h => absurd h (by decide))
  refine ks_aload_n dX11_tx_22 rfl rfl ?_
  refine ks_getf (T := TX11) (kf := 12) kx_1065 rfl in_X11 cl_X11 (by decide) h0 rfl dX11_tx_23 rfl ?_
  refine ks_bipush (x := nI 12) dX11_tx_26 (by decide) rfl ?_
  refine ks_icmp_neN (tgt := 39) (by omega) (by decide) dX11_tx_28 (by decide) rfl (fun h4 => ?_) (fun h4 => absurd h4 (by omega))
  have hx := hD.2 dc hdc
  obtain ⟨xsz, xid, xix, xsq, xvl, xsc, xU, -, -⟩ := dx_len hx
  have xO := xU.1
  refine ks_aload_n dX11_tx_39 rfl rfl ?_
  refine ks_getf (T := TX11) (kf := 8) kx_1061 rfl in_X11 cl_X11 (by decide) h0 rfl dX11_tx_40 rfl ?_
  refine ks_aload_n dX11_tx_43 rfl rfl ?_
  refine ks_getf (T := TX11) (kf := 12) kx_1065 rfl in_X11 cl_X11 (by decide) h0 rfl dX11_tx_44 rfl ?_
  refine ks_aaldN (i := dc) (b := (56 + 19 * dc)) (by decide) h52 rfl (by omega) (by decide) (if_pos (by omega)) dX11_tx_47 rfl ?_
  refine ks_lload_n dX11_tx_48 rfl rfl ?_
  refine ks_lload_n dX11_tx_49 rfl rfl ?_
  refine ks_callV (n := 2) (M' := mX4_begin) (c_begin (d := d) (ve2 := v) (lo2 := k) hx) xO cl_X4 rfl kx_824 kx_825 kx_826 kx_28 kx_827 (by decide +kernel) rfl (by decide) (Nat.le_of_ble_eq_true rfl) rfl dX11_tx_50 rfl (fun z2 T2 y2 => ?_)
  obtain ⟨rfl, w2, X2⟩ := y2
  have u2 : ks_up S T2 (dxL (56 + 19 * dc)) := w2.mono (fun x hx => by rw [List.mem_singleton] at hx; exact dxL_in (by omega))
  have a0 := w2.at h0 (by rw [List.mem_singleton]; omega)
  refine ks_aload_n dX11_tx_53 rfl rfl ?_
  refine ks_dup dX11_tx_54 rfl rfl ?_
  refine ks_getf (T := TX11) (kf := 12) kx_1065 rfl in_X11 cl_X11 (by decide) a0 rfl dX11_tx_55 rfl ?_
  refine ks_iconst (x := nI 1) dX11_tx_58 (by decide) rfl ?_
  refine ks_addN dX11_tx_59 rfl ?_
  refine ks_putf (T := TX11) (kf := 12) kx_1065 rfl in_X11 tyX11_ok nmX11 cl_X11 (by decide) a0 (Nat.le_of_ble_eq_true rfl) rfl rfl rfl rfl dX11_tx_60 rfl ?_
  refine ks_aload_n dX11_tx_63 rfl rfl ?_
  refine ks_getf (T := TX11) (kf := 12) kx_1065 rfl in_X11 cl_X11 (by decide) (ks_set_same _ _ _) rfl dX11_tx_64 rfl ?_
  refine ks_iret rfl dX11_tx_67 ?_
  have w3 : ∀ e, ks_up T2 (ks_set T2 0 e) [0] := fun e => ks_up_set _ _ List.mem_cons_self
  refine ⟨rfl, (u2.mono (fun x hx => List.mem_cons_of_mem _ hx)).trans ((w3 _).mono (fun x hx => by rw [List.mem_singleton] at hx; rw [hx]; exact List.mem_cons_self)), ks_set_same _ _ _, ?_⟩
  exact (hD.put hdc u2 X2).up (w3 _) (by decide)
set_option maxRecDepth 100000 in
set_option maxHeartbeats 800000 in
theorem c_jd_output {l : Launch} {G : ks_G} {d : Nat} {S : ks_S} {dc dp : Nat} {dt : Int64} {rs : Int32} (h0 : S.2.2 0 = some (jdO dc dp dt rs)) {T : List Nat} (hT : bfS S 1 2 1600 (some T)) {Ds : Nat → dTx} (hD : dfS S Ds) {v : Int64} (hdc : 0 < dc ∧ dc ≤ 12) (hT6 : T.length ≤ 600) (ho : (Ds (dc - 1)).2.2.2.length < 6) : ks_P l G yX11_output mX11_output (d + 3) [.ref 0, .long v] S (fun z S' => z = some (.int (nI ((Ds (dc - 1)).2.2.2.length + 1))) ∧ ks_up S S' (1 :: 2 :: dxL (56 + 19 * (dc - 1))) ∧ bfS S' 1 2 1600 (some []) ∧ dfS S' (va_up Ds (dc - 1) ((Ds (dc - 1)).1, (Ds (dc - 1)).2.1, (Ds (dc - 1)).2.2.1, (Ds (dc - 1)).2.2.2 ++ [(v, T)]))) := by
  have h0 : S.2.2 0 = some (.inr (14, [.ref 1, .ref 3, .ref 5, .ref 7, .ref 14, .ref 20, .ref 27, .ref 41, .ref 52, .ref 53, .ref 54, .ref 55, .int (nI dc), .int (nI dp), .long dt, .int rs])) := h0
  obtain ⟨len, g, kg, hl16, e2, e1, ⟨hl, hg⟩⟩ := id hT
  have h52 := hD.1
  have hx := hD.2 (dc - 1) (by omega)
  obtain ⟨xsz, xid, xix, xsq, xvl, xsc, xU, xI, xO⟩ := dx_len hx
  have xB := xU.2.2.2.2.2.2.2.2.2.2.2.2.2.2
  have xk := xU.2.2.2.2.2.2.2.2.2.2.1
  have xm := xU.2.2.2.2.2.2.2.2.2.2.2.1
  have x0 := xU.1
  have x1 := xU.2.1
  refine ks_of (by decide) rfl rfl (Nat.le_of_ble_eq_true rfl) ?_
  show ks_X l G mX11_output (d + 3) 0 [(0, .ref 0), (1, .long v)] [] S _
  refine ks_aload_n dX11_output_0 rfl rfl ?_
  refine ks_getf (T := TX11) (kf := 12) kx_1065 rfl in_X11 cl_X11 (by decide) h0 rfl dX11_output_1 rfl ?_
  refine ks_if_neN (tgt := 15) (by omega) dX11_output_4 (by decide) rfl (fun h1 => ?_) (fun h1 => absurd h1 (by omega))
  refine ks_aload_n dX11_output_15 rfl rfl ?_
  refine ks_getf (T := TX11) (kf := 8) kx_1061 rfl in_X11 cl_X11 (by decide) h0 rfl dX11_output_16 rfl ?_
  refine ks_aload_n dX11_output_19 rfl rfl ?_
  refine ks_getf (T := TX11) (kf := 12) kx_1065 rfl in_X11 cl_X11 (by decide) h0 rfl dX11_output_20 rfl ?_
  refine ks_iconst (x := nI 1) dX11_output_23 (by decide) rfl ?_
  refine ks_subN (by omega) dX11_output_24 rfl ?_
  refine ks_aaldN (i := dc - 1) (b := (56 + 19 * (dc - 1))) (by decide) h52 rfl (by omega) (by decide) (if_pos (by omega)) dX11_output_25 rfl ?_
  refine ks_astore_n dX11_output_26 (by decide) rfl ?_
  refine ks_sub [(3, _), (0, _), (1, _)] rfl ?_
  refine ks_aload_n dX11_output_27 rfl rfl ?_
  refine ks_getf (T := TX4) (kf := 1) kx_789 rfl in_X4 cl_X4 (by decide) x0 rfl dX11_output_28 rfl ?_
  refine ks_bipush (x := nI 6) dX11_output_31 (by decide) rfl ?_
  refine ks_icmp_eqN (tgt := 49) (by omega) (by decide) dX11_output_33 (by decide) rfl (fun h2 => absurd h2 (by omega)) (fun h2 => ?_)
  refine ks_aload_n dX11_output_36 rfl rfl ?_
  refine ks_getf (T := TX11) (kf := 0) kx_1053 rfl in_X11 cl_X11 (by decide) h0 rfl dX11_output_37 rfl ?_
  refine ks_getf (T := TX1) (kf := 1) kx_59 rfl in_X1 cl_X1 (by decide) e1 rfl dX11_output_40 rfl ?_
  refine ks_sipush (x := nI 600) dX11_output_43 (by decide) rfl ?_
  refine ks_icmp_leN (tgt := 57) (by omega) (by decide) dX11_output_46 (by decide) rfl (fun h3 => ?_) (fun h3 => absurd h3 (by omega))
  refine ks_aload_n dX11_output_57 rfl rfl ?_
  refine ks_lload_n dX11_output_58 rfl rfl ?_
  refine ks_aload_n dX11_output_59 rfl rfl ?_
  refine ks_getf (T := TX11) (kf := 0) kx_1053 rfl in_X11 cl_X11 (by decide) h0 rfl dX11_output_60 rfl ?_
  refine ks_callV (n := 2) (M' := mX4_addOutput) (c_addOutput (d := d) (v := v) hx hT (by omega) (by decide) hT6 ho) x0 cl_X4 rfl kx_848 kx_849 kx_850 kx_28 kx_851 (by decide +kernel) rfl (by decide) (Nat.le_of_ble_eq_true rfl) rfl dX11_output_63 rfl (fun z2 T2 y2 => ?_)
  obtain ⟨rfl, w2, X2⟩ := y2
  have n9 : ∀ x, x < 56 → x ∉ dxL (56 + 19 * (dc - 1)) := fun x h hx => by have := dxL_me hx; omega
  have a0 := w2.at h0 (n9 _ (by decide))
  have B2 := hT.up w2 (n9 _ (by decide)) (n9 _ (by decide))
  have D2 := hD.put (by omega) w2 X2
  obtain ⟨len2, g2, -, -, -, a1, -⟩ := id B2
  refine ks_aload_n dX11_output_66 rfl rfl ?_
  refine ks_getf (T := TX11) (kf := 0) kx_1053 rfl in_X11 cl_X11 (by decide) a0 rfl dX11_output_67 rfl ?_
  refine ks_callV (n := 0) (M' := mX1_clear) (bf_clear (d := d + 2) B2) a1 cl_X1 rfl kx_842 kx_843 kx_844 kx_2 kx_845 (by decide +kernel) rfl (by decide) (Nat.le_of_ble_eq_true rfl) rfl dX11_output_70 rfl (fun z3 T3 y3 => ?_)
  obtain ⟨rfl, w3, B3⟩ := y3
  have X3 := X2.up w3 (fun x hx => by simp only [List.mem_cons, List.not_mem_nil, or_false] at hx; omega)
  obtain ⟨ysz, yid, yix, ysq, yvl, ysc, yU, -, -⟩ := dx_len X3
  have y0 := yU.1
  refine ks_aload_n dX11_output_73 rfl rfl ?_
  refine ks_getf (T := TX4) (kf := 1) kx_789 rfl in_X4 cl_X4 (by decide) y0 rfl dX11_output_74 rfl ?_
  refine ks_iret rfl dX11_output_77 ?_
  rw [List.length_append]
  exact ⟨rfl, (w2.mono (fun x hx => List.mem_cons_of_mem _ (List.mem_cons_of_mem _ hx))).trans (w3.mono (fun x hx => by simp only [List.mem_cons, List.not_mem_nil, or_false] at hx ⊢; omega)), B3, D2.up w3 (by decide)⟩
