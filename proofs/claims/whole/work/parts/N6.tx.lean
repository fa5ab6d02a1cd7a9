/-! THE REFERENCE: the draft begins, transactions, outputs -/
theorem rdA_cg {ver loc : Nat → Int64} {inp out ids : Nat → Nat} {ix : Nat → Int32} {seq : Nat → Int64} {iln : Nat → Nat} {val : Nat → Int64} {oln : Nat → Nat} {sc so : Nat → Nat → Nat} {ver' loc' : Nat → Int64} {inp' out' ids' : Nat → Nat} {ix' : Nat → Int32} {seq' : Nat → Int64} {iln' : Nat → Nat} {val' : Nat → Int64} {oln' : Nat → Nat} {sc' so' : Nat → Nat → Nat} {i : Nat} {D : dTx} (h : rdA ver loc inp out ids ix seq iln val oln sc so i D) (e1 : ver' i = ver i) (e2 : loc' i = loc i) (e3 : inp' i = inp i) (e4 : out' i = out i) (hr : ∀ r, 6 * i ≤ r → r < 6 * i + 6 → (∀ k, k < 32 → ids' (36 * r + k) = ids (36 * r + k)) ∧ ix' r = ix r ∧ seq' r = seq r ∧ iln' r = iln r ∧ val' r = val r ∧ oln' r = oln r ∧ sc' r = sc r ∧ so' r = so r) : rdA ver' loc' inp' out' ids' ix' seq' iln' val' oln' sc' so' i D := by
  obtain ⟨eD, h6, o6, hi, ho⟩ := h
  refine ⟨?_, by rw [e3]; exact h6, by rw [e4]; exact o6, fun j hj => ?_, fun j hj => ?_⟩
  · rw [eD, e1, e2, e3, e4]
    refine congrArg (fun z => (ver i, loc i, z)) ?_
    refine Prod.ext ?_ ?_
    · refine List.map_congr_left (fun j hj => ?_)
      have hj := List.mem_range.mp hj
      obtain ⟨a1, a2, a3, a4, -, -, a7, -⟩ := hr (6 * i + j) (by omega) (by omega)
      unfold rdI
      rw [a2, a3, a4, a7, bytL_congr (fun k hk => a1 k hk)]
    · refine List.map_congr_left (fun j hj => ?_)
      have hj := List.mem_range.mp hj
      obtain ⟨-, -, -, -, a5, a6, -, a8⟩ := hr (6 * i + j) (by omega) (by omega)
      unfold rdO
      rw [a5, a6, a8]
  · rw [e3] at hj
    obtain ⟨-, -, -, a4, -⟩ := hr (6 * i + j) (by omega) (by omega)
    rw [a4]
    exact hi j hj
  · rw [e4] at hj
    obtain ⟨-, -, -, -, -, a6, -⟩ := hr (6 * i + j) (by omega) (by omega)
    rw [a6]
    exact ho j hj
def LDw : List Nat := List.range' 374 155
theorem mem_LDw {a : Nat} : a ∈ LDw ↔ 374 ≤ a ∧ a < 529 := by
  unfold LDw
  rw [List.mem_range'_1]
theorem rdS_len {S : ks_S} {t i : Nat} {D : Nat → dTx} {ver loc : Nat → Int64} {inp out ids : Nat → Nat} {ix : Nat → Int32} {seq : Nat → Int64} {iln : Nat → Nat} {val : Nat → Int64} {oln : Nat → Nat} {sc so : Nat → Nat → Nat} (h : rdA ver loc inp out ids ix seq iln val oln sc so i (D i)) : (D i).2.2.1.length = inp i ∧ (D i).2.2.2.length = out i := by
  rw [h.1]
  exact ⟨by rw [List.length_map, List.length_range], by rw [List.length_map, List.length_range]⟩
theorem rd_pair {a b : Int64} {x x' : List dIn} {z z' : List dOut} (h : x = x') (k : z = z') : ((a, b, x, z) : dTx) = (a, b, x', z') := by rw [h, k]
theorem nI_tI9 {a : Nat} (h : a < 2 ^ 31) : (nI a).toInt = a := i32_T (v := (a : Int)) (by omega) (by omega)
theorem nI_gm {a : Nat} (h : a < 2 ^ 31) : ¬ nI a < -1 := by
  rw [Int32.lt_iff_toInt_lt, nI_tI9 h]
  show ¬ ((a : Int) < -1)
  omega
theorem nI_gm2 {a : Nat} (h : a < 2 ^ 31) : ¬ nI a ≤ -1 := by
  rw [Int32.le_iff_toInt_le, nI_tI9 h]
  show ¬ ((a : Int) ≤ -1)
  omega
theorem unL_f {v : Int64} (h : (!unL v) = true) : unL v = false := by
  cases e : unL v
  · rfl
  · rw [e] at h; cases h
set_option maxRecDepth 100000 in
set_option maxHeartbeats 800000 in
theorem c_mr_open {l : Launch} {G : ks_G} {d : Nat} {S : ks_S} {V : Nat → Value} (hO : S.2.2 290 = some (rfE V)) {n best : Nat} {v : Int64} (v47 : V 47 = .int (nI n)) (v48 : V 48 = .int (nI best)) (hn : n ≤ 61) {x : Nat} (hx : x < n) (hv : unL v = false) : ks_P l G yX16_open mX16_open (d + 1) [.ref 290, .int (nI x), .long v] S (fun z S' => z = none ∧ ∃ V', pbK [] [92, 93, 94, 111] S S' V V' ∧ V' 111 = .int (nI 0) ∧ V' 92 = .int (nI x) ∧ V' 93 = .long v ∧ V' 94 = .int (nI 0)) := by
  refine ks_of (by decide) rfl rfl (Nat.le_of_ble_eq_true rfl) ?_
  show ks_X l G mX16_open (d + 1) 0 [(0, .ref 290), (1, .int (nI x)), (2, .long v)] [] S _
  refine ks_aload_n dX16_open_0 rfl rfl ?_
  refine ks_iload_n dX16_open_1 rfl rfl ?_
  refine ks_iconst (x := (-1)) dX16_open_2 (by decide) rfl ?_
  refine ks_icmp_lt (tgt := 25) dX16_open_3 (by decide) rfl (fun hc3 => ?_) (fun hc3 => ?_)
  · refine ks_iconst (x := nI 0) dX16_open_25 (by decide) rfl ?_
    refine ks_iconst (x := nI 1) dX16_open_26 (by decide) rfl ?_
    first | omega | exact absurd hc3 (nI_gm (by omega))
  · refine ks_iload_n dX16_open_6 rfl rfl ?_
    refine ks_aload_n dX16_open_7 rfl rfl ?_
    refine ks_getf (T := TX16) (kf := 47) kx_2415 rfl in_X16 cl_X16 (by decide) hO rfl dX16_open_8 rfl ?_
    refine ks_tv v47 ?_
    refine ks_icmp_geN (tgt := 25) (by omega) (by omega) dX16_open_11 (by decide) rfl (fun hc11 => ?_) (fun hc11 => ?_)
    · refine ks_iconst (x := nI 0) dX16_open_25 (by decide) rfl ?_
      refine ks_iconst (x := nI 1) dX16_open_26 (by decide) rfl ?_
      first | omega | exact absurd hc3 (nI_gm (by omega))
    · refine ks_lload_n dX16_open_14 rfl rfl ?_
      refine ks_callS (n := 1) (M' := mX16_is32) (c_md_is32 (v := v)) kx_2769 kx_2770 kx_30 kx_2771 (by decide +kernel) rfl (by decide) (Nat.le_of_ble_eq_true rfl) rfl dX16_open_15 rfl (fun zi15 Si15 yi15 => ?_)
      obtain ⟨rfl, hqi15⟩ := yi15
      obtain rfl := hqi15.symm
      rw [hv]
      refine ks_ti (y := nI 1) rfl ?_
      refine ks_if_eqN (tgt := 25) (by decide) dX16_open_18 (by decide) rfl (fun hc18 => ?_) (fun hc18 => ?_)
      · exact absurd hc18 (by decide)
      · refine ks_iconst (x := nI 1) dX16_open_21 (by decide) rfl ?_
        refine ks_goto (tgt := 26) dX16_open_22 (by decide) ?_
        refine ks_iconst (x := nI 1) dX16_open_26 (by decide) rfl ?_
        refine ks_callV (n := 2) (M' := mX16_good) (c_md_good1 hO) hO cl_X16 rfl kx_2734 kx_2736 kxp_127 kx_30 kx_2737 (by decide +kernel) rfl (by decide) (Nat.le_of_ble_eq_true rfl) rfl dX16_open_27 rfl (fun z27 S27 y27 => ?_)
        obtain ⟨rfl, V27, J27, v27⟩ := y27
        refine ks_if_neN (tgt := 34) (by decide) dX16_open_30 (by decide) rfl (fun hc30 => ?_) (fun hc30 => ?_)
        · refine ks_aload_n dX16_open_34 rfl rfl ?_
          refine ks_iload_n dX16_open_35 rfl rfl ?_
          refine ks_if_geN (tgt := 46) (by omega) dX16_open_36 (by decide) ?_
          refine ks_iload_n dX16_open_46 rfl rfl ?_
          refine ks_putf (T := TX16) (kf := 92) kx_2460 rfl in_X16 tyX16_ok nmX16 cl_X16 (by decide) J27.2.1 (Nat.le_of_ble_eq_true rfl) rfl rfl rfl rfl dX16_open_47 rfl ?_
          refine md_put mdp_92 ?_
          refine ks_aload_n dX16_open_50 rfl rfl ?_
          refine ks_lload_n dX16_open_51 rfl rfl ?_
          refine ks_putf (T := TX16) (kf := 93) kx_2461 rfl in_X16 tyX16_ok nmX16 cl_X16 (by decide) (ks_set_same _ _ _) (Nat.le_of_ble_eq_true rfl) rfl rfl rfl rfl dX16_open_52 rfl ?_
          refine md_put mdp_93 ?_
          refine ks_aload_n dX16_open_55 rfl rfl ?_
          refine ks_iconst (x := nI 0) dX16_open_56 (by decide) rfl ?_
          refine ks_putf (T := TX16) (kf := 94) kx_2462 rfl in_X16 tyX16_ok nmX16 cl_X16 (by decide) (ks_set_same _ _ _) (Nat.le_of_ble_eq_true rfl) rfl rfl rfl rfl dX16_open_57 rfl ?_
          refine md_put mdp_94 ?_
          refine ks_ret rfl dX16_open_60 ?_
          refine ⟨rfl, _, ⟨(J27.1.trans (ks_up_set _ _ (by decide))).trans ((ks_up_set _ _ (by decide)).trans (ks_up_set _ _ (by decide))), ks_set_same _ _ _, fun z hz => ?_⟩, ?_, ?_, ?_, va_up_self _ _ _⟩
          · simp only [List.mem_cons, List.not_mem_nil, or_false, not_or] at hz
            rw [va_up_ne _ _ hz.2.2.1, va_up_ne _ _ hz.2.1, va_up_ne _ _ hz.1]
            exact J27.2.2 z (by rw [List.mem_singleton]; exact hz.2.2.2)
          · rw [va_up_ne _ _ (by decide), va_up_ne _ _ (by decide), va_up_ne _ _ (by decide)]
            exact v27
          · rw [va_up_ne _ _ (by decide), va_up_ne _ _ (by decide)]
            exact va_up_self _ _ _
          · rw [va_up_ne _ _ (by decide)]
            exact va_up_self _ _ _
        · exact absurd hc30 (by decide)
set_option maxRecDepth 100000 in
set_option maxHeartbeats 800000 in
theorem c_mr_openB {l : Launch} {G : ks_G} {d : Nat} {S : ks_S} {V : Nat → Value} (hO : S.2.2 290 = some (rfE V)) {n best : Nat} {v : Int64} (v47 : V 47 = .int (nI n)) (v48 : V 48 = .int (nI best)) (hn : n ≤ 61) (hv : unL v = false) : ks_P l G yX16_open mX16_open (d + 1) [.ref 290, .int (-1), .long v] S (fun z S' => z = none ∧ ∃ V', pbK [] [92, 93, 94, 111] S S' V V' ∧ V' 111 = .int (nI 0) ∧ V' 92 = .int (nI best) ∧ V' 93 = .long v ∧ V' 94 = .int (nI 0)) := by
  refine ks_of (by decide) rfl rfl (Nat.le_of_ble_eq_true rfl) ?_
  show ks_X l G mX16_open (d + 1) 0 [(0, .ref 290), (1, .int (-1)), (2, .long v)] [] S _
  refine ks_aload_n dX16_open_0 rfl rfl ?_
  refine ks_iload_n dX16_open_1 rfl rfl ?_
  refine ks_iconst (x := (-1)) dX16_open_2 (by decide) rfl ?_
  refine ks_icmp_lt (tgt := 25) dX16_open_3 (by decide) rfl (fun hc3 => ?_) (fun hc3 => ?_)
  · exact absurd hc3 (by decide)
  · refine ks_iload_n dX16_open_6 rfl rfl ?_
    refine ks_aload_n dX16_open_7 rfl rfl ?_
    refine ks_getf (T := TX16) (kf := 47) kx_2415 rfl in_X16 cl_X16 (by decide) hO rfl dX16_open_8 rfl ?_
    refine ks_tv v47 ?_
    refine ks_icmp_ge (tgt := 25) dX16_open_11 (by decide) rfl (fun hc11 => ?_) (fun hc11 => ?_)
    · refine ks_iconst (x := nI 0) dX16_open_25 (by decide) rfl ?_
      refine ks_iconst (x := nI 1) dX16_open_26 (by decide) rfl ?_
      first | omega | exact absurd hc3 (by decide) | exact absurd hc11 (nI_gm2 (by omega))
    · refine ks_lload_n dX16_open_14 rfl rfl ?_
      refine ks_callS (n := 1) (M' := mX16_is32) (c_md_is32 (v := v)) kx_2769 kx_2770 kx_30 kx_2771 (by decide +kernel) rfl (by decide) (Nat.le_of_ble_eq_true rfl) rfl dX16_open_15 rfl (fun zi15 Si15 yi15 => ?_)
      obtain ⟨rfl, hqi15⟩ := yi15
      obtain rfl := hqi15.symm
      rw [hv]
      refine ks_ti (y := nI 1) rfl ?_
      refine ks_if_eqN (tgt := 25) (by decide) dX16_open_18 (by decide) rfl (fun hc18 => ?_) (fun hc18 => ?_)
      · exact absurd hc18 (by decide)
      · refine ks_iconst (x := nI 1) dX16_open_21 (by decide) rfl ?_
        refine ks_goto (tgt := 26) dX16_open_22 (by decide) ?_
        refine ks_iconst (x := nI 1) dX16_open_26 (by decide) rfl ?_
        refine ks_callV (n := 2) (M' := mX16_good) (c_md_good1 hO) hO cl_X16 rfl kx_2734 kx_2736 kxp_127 kx_30 kx_2737 (by decide +kernel) rfl (by decide) (Nat.le_of_ble_eq_true rfl) rfl dX16_open_27 rfl (fun z27 S27 y27 => ?_)
        obtain ⟨rfl, V27, J27, v27⟩ := y27
        refine ks_if_neN (tgt := 34) (by decide) dX16_open_30 (by decide) rfl (fun hc30 => ?_) (fun hc30 => ?_)
        · refine ks_aload_n dX16_open_34 rfl rfl ?_
          refine ks_iload_n dX16_open_35 rfl rfl ?_
          refine ks_if_ge (tgt := 46) dX16_open_36 (by decide) rfl (fun hc36 => ?_) (fun hc36 => ?_)
          · exact absurd hc36 (by decide)
          · refine ks_aload_n dX16_open_39 rfl rfl ?_
            refine ks_getf (T := TX16) (kf := 48) kx_2416 rfl in_X16 cl_X16 (by decide) J27.2.1 rfl dX16_open_40 rfl ?_
            refine ks_tv ((J27.2.2 48 (by decide)).trans v48) ?_
            refine ks_goto (tgt := 47) dX16_open_43 (by decide) ?_
            refine ks_putf (T := TX16) (kf := 92) kx_2460 rfl in_X16 tyX16_ok nmX16 cl_X16 (by decide) J27.2.1 (Nat.le_of_ble_eq_true rfl) rfl rfl rfl rfl dX16_open_47 rfl ?_
            refine md_put mdp_92 ?_
            refine ks_aload_n dX16_open_50 rfl rfl ?_
            refine ks_lload_n dX16_open_51 rfl rfl ?_
            refine ks_putf (T := TX16) (kf := 93) kx_2461 rfl in_X16 tyX16_ok nmX16 cl_X16 (by decide) (ks_set_same _ _ _) (Nat.le_of_ble_eq_true rfl) rfl rfl rfl rfl dX16_open_52 rfl ?_
            refine md_put mdp_93 ?_
            refine ks_aload_n dX16_open_55 rfl rfl ?_
            refine ks_iconst (x := nI 0) dX16_open_56 (by decide) rfl ?_
            refine ks_putf (T := TX16) (kf := 94) kx_2462 rfl in_X16 tyX16_ok nmX16 cl_X16 (by decide) (ks_set_same _ _ _) (Nat.le_of_ble_eq_true rfl) rfl rfl rfl rfl dX16_open_57 rfl ?_
            refine md_put mdp_94 ?_
            refine ks_ret rfl dX16_open_60 ?_
            refine ⟨rfl, _, ⟨(J27.1.trans (ks_up_set _ _ (by decide))).trans ((ks_up_set _ _ (by decide)).trans (ks_up_set _ _ (by decide))), ks_set_same _ _ _, fun z hz => ?_⟩, ?_, ?_, ?_, va_up_self _ _ _⟩
            · simp only [List.mem_cons, List.not_mem_nil, or_false, not_or] at hz
              rw [va_up_ne _ _ hz.2.2.1, va_up_ne _ _ hz.2.1, va_up_ne _ _ hz.1]
              exact J27.2.2 z (by rw [List.mem_singleton]; exact hz.2.2.2)
            · rw [va_up_ne _ _ (by decide), va_up_ne _ _ (by decide), va_up_ne _ _ (by decide)]
              exact v27
            · rw [va_up_ne _ _ (by decide), va_up_ne _ _ (by decide)]
              exact va_up_self _ _ _
            · rw [va_up_ne _ _ (by decide)]
              exact va_up_self _ _ _
        · exact absurd hc30 (by decide)
set_option maxRecDepth 100000 in
set_option maxHeartbeats 800000 in
theorem r_open {l : Launch} {G : ks_G} {d : Nat} {S : ks_S} {V : Nat → Value} (hO : S.2.2 290 = some (rfE V)) {n best : Nat} {v : Int64} (v47 : V 47 = .int (nI n)) (v48 : V 48 = .int (nI best)) (hn : n ≤ 61) {x : Int32} (hx : ¬ (¬ x < -1 ∧ ¬ nI n ≤ x ∧ unL v = false)) : ks_P l G yX16_open mX16_open (d + 1) [.ref 290, .int x, .long v] S (fun z S' => z = none ∧ ∃ V', pbK [] [111] S S' V V' ∧ V' 111 = .int (nI 1)) := by
  refine ks_of (by decide) rfl rfl (Nat.le_of_ble_eq_true rfl) ?_
  show ks_X l G mX16_open (d + 1) 0 [(0, .ref 290), (1, .int x), (2, .long v)] [] S _
  refine ks_aload_n dX16_open_0 rfl rfl ?_
  refine ks_iload_n dX16_open_1 rfl rfl ?_
  refine ks_iconst (x := (-1)) dX16_open_2 (by decide) rfl ?_
  refine ks_icmp_lt (tgt := 25) dX16_open_3 (by decide) rfl (fun hc3 => ?_) (fun hc3 => ?_)
  · refine ks_iconst (x := nI 0) dX16_open_25 (by decide) rfl ?_
    refine ks_iconst (x := nI 1) dX16_open_26 (by decide) rfl ?_
    refine ks_callV (n := 2) (M' := mX16_good) (c_md_good0 hO) hO cl_X16 rfl kx_2734 kx_2736 kxp_127 kx_30 kx_2737 (by decide +kernel) rfl (by decide) (Nat.le_of_ble_eq_true rfl) rfl dX16_open_27 rfl (fun z27 S27 y27 => ?_)
    obtain ⟨rfl, V27, J27, v27⟩ := y27
    refine ks_if_neN (tgt := 34) (by decide) dX16_open_30 (by decide) rfl (fun hc30 => ?_) (fun hc30 => ?_)
    · exact absurd hc30 (by decide)
    · refine ks_ret rfl dX16_open_33 ?_
      exact ⟨rfl, _, J27, v27⟩
  · refine ks_iload_n dX16_open_6 rfl rfl ?_
    refine ks_aload_n dX16_open_7 rfl rfl ?_
    refine ks_getf (T := TX16) (kf := 47) kx_2415 rfl in_X16 cl_X16 (by decide) hO rfl dX16_open_8 rfl ?_
    refine ks_tv v47 ?_
    refine ks_icmp_ge (tgt := 25) dX16_open_11 (by decide) rfl (fun hc11 => ?_) (fun hc11 => ?_)
    · refine ks_iconst (x := nI 0) dX16_open_25 (by decide) rfl ?_
      refine ks_iconst (x := nI 1) dX16_open_26 (by decide) rfl ?_
      refine ks_callV (n := 2) (M' := mX16_good) (c_md_good0 hO) hO cl_X16 rfl kx_2734 kx_2736 kxp_127 kx_30 kx_2737 (by decide +kernel) rfl (by decide) (Nat.le_of_ble_eq_true rfl) rfl dX16_open_27 rfl (fun z27 S27 y27 => ?_)
      obtain ⟨rfl, V27, J27, v27⟩ := y27
      refine ks_if_neN (tgt := 34) (by decide) dX16_open_30 (by decide) rfl (fun hc30 => ?_) (fun hc30 => ?_)
      · exact absurd hc30 (by decide)
      · refine ks_ret rfl dX16_open_33 ?_
        exact ⟨rfl, _, J27, v27⟩
    · refine ks_lload_n dX16_open_14 rfl rfl ?_
      refine ks_callS (n := 1) (M' := mX16_is32) (c_md_is32 (v := v)) kx_2769 kx_2770 kx_30 kx_2771 (by decide +kernel) rfl (by decide) (Nat.le_of_ble_eq_true rfl) rfl dX16_open_15 rfl (fun zi15 Si15 yi15 => ?_)
      obtain ⟨rfl, hqi15⟩ := yi15
      obtain rfl := hqi15.symm
      refine ks_if_eqZ (tgt := 25) dX16_open_18 (by decide) rfl (fun hc18 => ?_) (fun hc18 => ?_)
      · refine ks_iconst (x := nI 0) dX16_open_25 (by decide) rfl ?_
        refine ks_iconst (x := nI 1) dX16_open_26 (by decide) rfl ?_
        refine ks_callV (n := 2) (M' := mX16_good) (c_md_good0 hO) hO cl_X16 rfl kx_2734 kx_2736 kxp_127 kx_30 kx_2737 (by decide +kernel) rfl (by decide) (Nat.le_of_ble_eq_true rfl) rfl dX16_open_27 rfl (fun z27 S27 y27 => ?_)
        obtain ⟨rfl, V27, J27, v27⟩ := y27
        refine ks_if_neN (tgt := 34) (by decide) dX16_open_30 (by decide) rfl (fun hc30 => ?_) (fun hc30 => ?_)
        · exact absurd hc30 (by decide)
        · refine ks_ret rfl dX16_open_33 ?_
          exact ⟨rfl, _, J27, v27⟩
      · refine ks_iconst (x := nI 1) dX16_open_21 (by decide) rfl ?_
        refine ks_goto (tgt := 26) dX16_open_22 (by decide) ?_
        refine ks_iconst (x := nI 1) dX16_open_26 (by decide) rfl ?_
        exact absurd ⟨hc3, hc11, unL_f hc18⟩ hx
set_option maxRecDepth 100000 in
set_option maxHeartbeats 800000 in
theorem r_tx {l : Launch} {G : ks_G} {d : Nat} {S : ks_S} {V : Nat → Value} (hO : S.2.2 290 = some (rfE V)) {t : Nat} {v k : Int64} (v94 : V 94 = .int (nI t)) (ht : t ≤ 12) (hx : ¬ (unL v = false ∧ unL k = false)) : ks_P l G yX16_tx mX16_tx (d + 1) [.ref 290, .long v, .long k] S (fun z S' => z = some (.int (nI 0)) ∧ ∃ V', pbK [] [111] S S' V V' ∧ V' 111 = .int (nI 1)) := by
  refine ks_of (by decide) rfl rfl (Nat.le_of_ble_eq_true rfl) ?_
  show ks_X l G mX16_tx (d + 1) 0 [(0, .ref 290), (1, .long v), (3, .long k)] [] S _
  refine ks_aload_n dX16_tx_0 rfl rfl ?_
  refine ks_lload_n dX16_tx_1 rfl rfl ?_
  refine ks_callS (n := 1) (M' := mX16_is32) (c_md_is32 (v := v)) kx_2769 kx_2770 kx_30 kx_2771 (by decide +kernel) rfl (by decide) (Nat.le_of_ble_eq_true rfl) rfl dX16_tx_2 rfl (fun zi2 Si2 yi2 => ?_)
  obtain ⟨rfl, hqi2⟩ := yi2
  obtain rfl := hqi2.symm
  refine ks_if_eqZ (tgt := 19) dX16_tx_5 (by decide) rfl (fun hc5 => ?_) (fun hc5 => ?_)
  · refine ks_iconst (x := nI 0) dX16_tx_19 (by decide) rfl ?_
    refine ks_iconst (x := nI 1) dX16_tx_20 (by decide) rfl ?_
    refine ks_callV (n := 2) (M' := mX16_good) (c_md_good0 hO) hO cl_X16 rfl kx_2734 kx_2736 kxp_127 kx_30 kx_2737 (by decide +kernel) rfl (by decide) (Nat.le_of_ble_eq_true rfl) rfl dX16_tx_21 rfl (fun z21 S21 y21 => ?_)
    obtain ⟨rfl, V21, J21, v21⟩ := y21
    refine ks_if_eqN (tgt := 49) (by decide) dX16_tx_24 (by decide) rfl (fun hc24 => ?_) (fun hc24 => ?_)
    · refine ks_iconst (x := nI 0) dX16_tx_49 (by decide) rfl ?_
      refine ks_iret rfl dX16_tx_50 ?_
      exact ⟨rfl, _, J21, v21⟩
    · exact absurd hc24 (by decide)
  · refine ks_lload_n dX16_tx_8 rfl rfl ?_
    refine ks_callS (n := 1) (M' := mX16_is32) (c_md_is32 (v := k)) kx_2769 kx_2770 kx_30 kx_2771 (by decide +kernel) rfl (by decide) (Nat.le_of_ble_eq_true rfl) rfl dX16_tx_9 rfl (fun zi9 Si9 yi9 => ?_)
    obtain ⟨rfl, hqi9⟩ := yi9
    obtain rfl := hqi9.symm
    refine ks_if_eqZ (tgt := 19) dX16_tx_12 (by decide) rfl (fun hc12 => ?_) (fun hc12 => ?_)
    · refine ks_iconst (x := nI 0) dX16_tx_19 (by decide) rfl ?_
      refine ks_iconst (x := nI 1) dX16_tx_20 (by decide) rfl ?_
      refine ks_callV (n := 2) (M' := mX16_good) (c_md_good0 hO) hO cl_X16 rfl kx_2734 kx_2736 kxp_127 kx_30 kx_2737 (by decide +kernel) rfl (by decide) (Nat.le_of_ble_eq_true rfl) rfl dX16_tx_21 rfl (fun z21 S21 y21 => ?_)
      obtain ⟨rfl, V21, J21, v21⟩ := y21
      refine ks_if_eqN (tgt := 49) (by decide) dX16_tx_24 (by decide) rfl (fun hc24 => ?_) (fun hc24 => ?_)
      · refine ks_iconst (x := nI 0) dX16_tx_49 (by decide) rfl ?_
        refine ks_iret rfl dX16_tx_50 ?_
        exact ⟨rfl, _, J21, v21⟩
      · exact absurd hc24 (by decide)
    · refine ks_iconst (x := nI 1) dX16_tx_15 (by decide) rfl ?_
      refine ks_goto (tgt := 20) dX16_tx_16 (by decide) ?_
      refine ks_iconst (x := nI 1) dX16_tx_20 (by decide) rfl ?_
      exact absurd ⟨unL_f hc5, unL_f hc12⟩ hx
set_option maxRecDepth 100000 in
set_option maxHeartbeats 800000 in
theorem r_txF {l : Launch} {G : ks_G} {d : Nat} {S : ks_S} {V : Nat → Value} (hO : S.2.2 290 = some (rfE V)) {t : Nat} {v k : Int64} (v94 : V 94 = .int (nI t)) (ht : t ≤ 12) (hv : unL v = false) (hk : unL k = false) (h12 : t = 12) : ks_P l G yX16_tx mX16_tx (d + 1) [.ref 290, .long v, .long k] S (fun z S' => z = some (.int (nI 0)) ∧ ∃ V', pbK [] [111] S S' V V' ∧ V' 111 = .int (nI 2)) := by
  refine ks_of (by decide) rfl rfl (Nat.le_of_ble_eq_true rfl) ?_
  show ks_X l G mX16_tx (d + 1) 0 [(0, .ref 290), (1, .long v), (3, .long k)] [] S _
  refine ks_aload_n dX16_tx_0 rfl rfl ?_
  refine ks_lload_n dX16_tx_1 rfl rfl ?_
  refine ks_callS (n := 1) (M' := mX16_is32) (c_md_is32 (v := v)) kx_2769 kx_2770 kx_30 kx_2771 (by decide +kernel) rfl (by decide) (Nat.le_of_ble_eq_true rfl) rfl dX16_tx_2 rfl (fun zi2 Si2 yi2 => ?_)
  obtain ⟨rfl, hqi2⟩ := yi2
  obtain rfl := hqi2.symm
  rw [hv]
  refine ks_ti (y := nI 1) rfl ?_
  refine ks_if_eqN (tgt := 19) (by decide) dX16_tx_5 (by decide) rfl (fun hc5 => ?_) (fun hc5 => ?_)
  · exact absurd hc5 (by decide)
  · refine ks_lload_n dX16_tx_8 rfl rfl ?_
    refine ks_callS (n := 1) (M' := mX16_is32) (c_md_is32 (v := k)) kx_2769 kx_2770 kx_30 kx_2771 (by decide +kernel) rfl (by decide) (Nat.le_of_ble_eq_true rfl) rfl dX16_tx_9 rfl (fun zi9 Si9 yi9 => ?_)
    obtain ⟨rfl, hqi9⟩ := yi9
    obtain rfl := hqi9.symm
    rw [hk]
    refine ks_ti (y := nI 1) rfl ?_
    refine ks_if_eqN (tgt := 19) (by decide) dX16_tx_12 (by decide) rfl (fun hc12 => ?_) (fun hc12 => ?_)
    · exact absurd hc12 (by decide)
    · refine ks_iconst (x := nI 1) dX16_tx_15 (by decide) rfl ?_
      refine ks_goto (tgt := 20) dX16_tx_16 (by decide) ?_
      refine ks_iconst (x := nI 1) dX16_tx_20 (by decide) rfl ?_
      refine ks_callV (n := 2) (M' := mX16_good) (c_md_good1 hO) hO cl_X16 rfl kx_2734 kx_2736 kxp_127 kx_30 kx_2737 (by decide +kernel) rfl (by decide) (Nat.le_of_ble_eq_true rfl) rfl dX16_tx_21 rfl (fun z21 S21 y21 => ?_)
      obtain ⟨rfl, V21, J21, v21⟩ := y21
      refine ks_if_eqN (tgt := 49) (by decide) dX16_tx_24 (by decide) rfl (fun hc24 => ?_) (fun hc24 => ?_)
      · exact absurd hc24 (by decide)
      · refine ks_aload_n dX16_tx_27 rfl rfl ?_
        refine ks_aload_n dX16_tx_28 rfl rfl ?_
        refine ks_getf (T := TX16) (kf := 94) kx_2462 rfl in_X16 cl_X16 (by decide) J21.2.1 rfl dX16_tx_29 rfl ?_
        refine ks_tv ((J21.2.2 94 (by decide)).trans v94) ?_
        refine ks_bipush (x := nI 12) dX16_tx_32 (by decide) rfl ?_
        refine ks_icmp_geN (tgt := 41) (by omega) (by decide) dX16_tx_34 (by decide) rfl (fun hc34 => ?_) (fun hc34 => ?_)
        · refine ks_iconst (x := nI 0) dX16_tx_41 (by decide) rfl ?_
          refine ks_iconst (x := nI 2) dX16_tx_42 (by decide) rfl ?_
          refine ks_callV (n := 2) (M' := mX16_good) (c_md_good0 J21.2.1) J21.2.1 cl_X16 rfl kx_2734 kx_2736 kxp_127 kx_30 kx_2737 (by decide +kernel) rfl (by decide) (Nat.le_of_ble_eq_true rfl) rfl dX16_tx_43 rfl (fun z43 S43 y43 => ?_)
          obtain ⟨rfl, V43, J43, v43⟩ := y43
          have K43 := J21.trans J43
          refine ks_if_neN (tgt := 51) (by decide) dX16_tx_46 (by decide) rfl (fun hc46 => ?_) (fun hc46 => ?_)
          · exact absurd hc46 (by decide)
          · refine ks_iconst (x := nI 0) dX16_tx_49 (by decide) rfl ?_
            refine ks_iret rfl dX16_tx_50 ?_
            exact ⟨rfl, _, K43, v43⟩
        · refine ks_iconst (x := nI 1) dX16_tx_37 (by decide) rfl ?_
          refine ks_goto (tgt := 42) dX16_tx_38 (by decide) ?_
          refine ks_iconst (x := nI 2) dX16_tx_42 (by decide) rfl ?_
          omega
set_option maxRecDepth 100000 in
set_option maxHeartbeats 800000 in
theorem c_mr_tx {l : Launch} {G : ks_G} {d : Nat} {S : ks_S} {V : Nat → Value} (hO : S.2.2 290 = some (rfE V)) {t : Nat} {v k : Int64} (v94 : V 94 = .int (nI t)) (ht : t ≤ 12) (hv : unL v = false) (hk : unL k = false) (h12 : t < 12) {D : Nat → dTx} (hD : rdS S t D) : ks_P l G yX16_tx mX16_tx (d + 1) [.ref 290, .long v, .long k] S (fun z S' => z = some (.int (nI (t + 1))) ∧ ∃ V', pbK LDw [94, 111] S S' V V' ∧ V' 111 = .int (nI 0) ∧ V' 94 = .int (nI (t + 1)) ∧ rdS S' (t + 1) (va_up D t (v, k, [], []))) := by
  obtain ⟨-, ver, loc, inp, out, ids, ix, seq, iln, val, oln, sc, so, U, A⟩ := hD
  obtain ⟨⟨h374, h375, h376, h377⟩, ⟨h378, kid⟩, ⟨h379, h453, h454, h528⟩, ⟨h380, h455⟩, hsc, ksc, hso, kso, hix⟩ := id U
  refine ks_of (by decide) rfl rfl (Nat.le_of_ble_eq_true rfl) ?_
  show ks_X l G mX16_tx (d + 1) 0 [(0, .ref 290), (1, .long v), (3, .long k)] [] S _
  refine ks_aload_n dX16_tx_0 rfl rfl ?_
  refine ks_lload_n dX16_tx_1 rfl rfl ?_
  refine ks_callS (n := 1) (M' := mX16_is32) (c_md_is32 (v := v)) kx_2769 kx_2770 kx_30 kx_2771 (by decide +kernel) rfl (by decide) (Nat.le_of_ble_eq_true rfl) rfl dX16_tx_2 rfl (fun zi2 Si2 yi2 => ?_)
  obtain ⟨rfl, hqi2⟩ := yi2
  obtain rfl := hqi2.symm
  rw [hv]
  refine ks_ti (y := nI 1) rfl ?_
  refine ks_if_eqN (tgt := 19) (by decide) dX16_tx_5 (by decide) rfl (fun hc5 => ?_) (fun hc5 => ?_)
  · exact absurd hc5 (by decide)
  · refine ks_lload_n dX16_tx_8 rfl rfl ?_
    refine ks_callS (n := 1) (M' := mX16_is32) (c_md_is32 (v := k)) kx_2769 kx_2770 kx_30 kx_2771 (by decide +kernel) rfl (by decide) (Nat.le_of_ble_eq_true rfl) rfl dX16_tx_9 rfl (fun zi9 Si9 yi9 => ?_)
    obtain ⟨rfl, hqi9⟩ := yi9
    obtain rfl := hqi9.symm
    rw [hk]
    refine ks_ti (y := nI 1) rfl ?_
    refine ks_if_eqN (tgt := 19) (by decide) dX16_tx_12 (by decide) rfl (fun hc12 => ?_) (fun hc12 => ?_)
    · exact absurd hc12 (by decide)
    · refine ks_iconst (x := nI 1) dX16_tx_15 (by decide) rfl ?_
      refine ks_goto (tgt := 20) dX16_tx_16 (by decide) ?_
      refine ks_iconst (x := nI 1) dX16_tx_20 (by decide) rfl ?_
      refine ks_callV (n := 2) (M' := mX16_good) (c_md_good1 hO) hO cl_X16 rfl kx_2734 kx_2736 kxp_127 kx_30 kx_2737 (by decide +kernel) rfl (by decide) (Nat.le_of_ble_eq_true rfl) rfl dX16_tx_21 rfl (fun z21 S21 y21 => ?_)
      obtain ⟨rfl, V21, J21, v21⟩ := y21
      refine ks_if_eqN (tgt := 49) (by decide) dX16_tx_24 (by decide) rfl (fun hc24 => ?_) (fun hc24 => ?_)
      · exact absurd hc24 (by decide)
      · refine ks_aload_n dX16_tx_27 rfl rfl ?_
        refine ks_aload_n dX16_tx_28 rfl rfl ?_
        refine ks_getf (T := TX16) (kf := 94) kx_2462 rfl in_X16 cl_X16 (by decide) J21.2.1 rfl dX16_tx_29 rfl ?_
        refine ks_tv ((J21.2.2 94 (by decide)).trans v94) ?_
        refine ks_bipush (x := nI 12) dX16_tx_32 (by decide) rfl ?_
        refine ks_icmp_geN (tgt := 41) (by omega) (by decide) dX16_tx_34 (by decide) rfl (fun hc34 => ?_) (fun hc34 => ?_)
        · refine ks_iconst (x := nI 0) dX16_tx_41 (by decide) rfl ?_
          refine ks_iconst (x := nI 2) dX16_tx_42 (by decide) rfl ?_
          omega
        · refine ks_iconst (x := nI 1) dX16_tx_37 (by decide) rfl ?_
          refine ks_goto (tgt := 42) dX16_tx_38 (by decide) ?_
          refine ks_iconst (x := nI 2) dX16_tx_42 (by decide) rfl ?_
          refine ks_callV (n := 2) (M' := mX16_good) (c_md_good1 J21.2.1) J21.2.1 cl_X16 rfl kx_2734 kx_2736 kxp_127 kx_30 kx_2737 (by decide +kernel) rfl (by decide) (Nat.le_of_ble_eq_true rfl) rfl dX16_tx_43 rfl (fun z43 S43 y43 => ?_)
          obtain ⟨rfl, V43, J43, v43⟩ := y43
          have K43 := J21.trans J43
          refine ks_if_neN (tgt := 51) (by decide) dX16_tx_46 (by decide) rfl (fun hc46 => ?_) (fun hc46 => ?_)
          · refine ks_aload_n dX16_tx_51 rfl rfl ?_
            refine ks_getf (T := TX16) (kf := 95) kx_2463 rfl in_X16 cl_X16 (by decide) J43.2.1 rfl dX16_tx_52 rfl ?_
            refine ks_aload_n dX16_tx_55 rfl rfl ?_
            refine ks_getf (T := TX16) (kf := 94) kx_2462 rfl in_X16 cl_X16 (by decide) J43.2.1 rfl dX16_tx_56 rfl ?_
            refine ks_tv ((J43.2.2 94 (by decide)).trans ((J21.2.2 94 (by decide)).trans v94)) ?_
            refine ks_lload_n dX16_tx_59 rfl rfl ?_
            refine ks_lastN (i := t) (J43.1.at (J21.1.at h374 (by decide)) (by decide)) rfl (by omega) (by decide) dX16_tx_60 rfl ?_
            refine ks_aload_n dX16_tx_61 rfl rfl ?_
            refine ks_getf (T := TX16) (kf := 96) kx_2464 rfl in_X16 cl_X16 (by decide) ((ks_set_ne _ _ (by decide)).trans J43.2.1) rfl dX16_tx_62 rfl ?_
            refine ks_aload_n dX16_tx_65 rfl rfl ?_
            refine ks_getf (T := TX16) (kf := 94) kx_2462 rfl in_X16 cl_X16 (by decide) ((ks_set_ne _ _ (by decide)).trans J43.2.1) rfl dX16_tx_66 rfl ?_
            refine ks_tv ((J43.2.2 94 (by decide)).trans ((J21.2.2 94 (by decide)).trans v94)) ?_
            refine ks_lload_n dX16_tx_69 rfl rfl ?_
            refine ks_lastN (i := t) ((ks_set_ne _ _ (by decide)).trans (J43.1.at (J21.1.at h375 (by decide)) (by decide))) rfl (by omega) (by decide) dX16_tx_70 rfl ?_
            refine ks_aload_n dX16_tx_71 rfl rfl ?_
            refine ks_getf (T := TX16) (kf := 97) kx_2465 rfl in_X16 cl_X16 (by decide) ((ks_set_ne _ _ (by decide)).trans ((ks_set_ne _ _ (by decide)).trans J43.2.1)) rfl dX16_tx_72 rfl ?_
            refine ks_aload_n dX16_tx_75 rfl rfl ?_
            refine ks_getf (T := TX16) (kf := 94) kx_2462 rfl in_X16 cl_X16 (by decide) ((ks_set_ne _ _ (by decide)).trans ((ks_set_ne _ _ (by decide)).trans J43.2.1)) rfl dX16_tx_76 rfl ?_
            refine ks_tv ((J43.2.2 94 (by decide)).trans ((J21.2.2 94 (by decide)).trans v94)) ?_
            refine ks_iconst (x := nI 0) dX16_tx_79 (by decide) rfl ?_
            refine ks_iastNN (i := t) (v := 0) (by decide) ((ks_set_ne _ _ (by decide)).trans ((ks_set_ne _ _ (by decide)).trans (J43.1.at (J21.1.at h376 (by decide)) (by decide)))) (by omega) (by decide) dX16_tx_80 rfl ?_
            refine ks_aload_n dX16_tx_81 rfl rfl ?_
            refine ks_getf (T := TX16) (kf := 98) kx_2466 rfl in_X16 cl_X16 (by decide) ((ks_set_ne _ _ (by decide)).trans ((ks_set_ne _ _ (by decide)).trans ((ks_set_ne _ _ (by decide)).trans J43.2.1))) rfl dX16_tx_82 rfl ?_
            refine ks_aload_n dX16_tx_85 rfl rfl ?_
            refine ks_getf (T := TX16) (kf := 94) kx_2462 rfl in_X16 cl_X16 (by decide) ((ks_set_ne _ _ (by decide)).trans ((ks_set_ne _ _ (by decide)).trans ((ks_set_ne _ _ (by decide)).trans J43.2.1))) rfl dX16_tx_86 rfl ?_
            refine ks_tv ((J43.2.2 94 (by decide)).trans ((J21.2.2 94 (by decide)).trans v94)) ?_
            refine ks_iconst (x := nI 0) dX16_tx_89 (by decide) rfl ?_
            refine ks_iastNN (i := t) (v := 0) (by decide) ((ks_set_ne _ _ (by decide)).trans ((ks_set_ne _ _ (by decide)).trans ((ks_set_ne _ _ (by decide)).trans (J43.1.at (J21.1.at h377 (by decide)) (by decide))))) (by omega) (by decide) dX16_tx_90 rfl ?_
            refine ks_aload_n dX16_tx_91 rfl rfl ?_
            refine ks_dup dX16_tx_92 rfl rfl ?_
            refine ks_getf (T := TX16) (kf := 94) kx_2462 rfl in_X16 cl_X16 (by decide) ((ks_set_ne _ _ (by decide)).trans ((ks_set_ne _ _ (by decide)).trans ((ks_set_ne _ _ (by decide)).trans ((ks_set_ne _ _ (by decide)).trans J43.2.1)))) rfl dX16_tx_93 rfl ?_
            refine ks_tv ((J43.2.2 94 (by decide)).trans ((J21.2.2 94 (by decide)).trans v94)) ?_
            refine ks_iconst (x := nI 1) dX16_tx_96 (by decide) rfl ?_
            refine ks_addN dX16_tx_97 rfl ?_
            refine ks_putf (T := TX16) (kf := 94) kx_2462 rfl in_X16 tyX16_ok nmX16 cl_X16 (by decide) ((ks_set_ne _ _ (by decide)).trans ((ks_set_ne _ _ (by decide)).trans ((ks_set_ne _ _ (by decide)).trans ((ks_set_ne _ _ (by decide)).trans J43.2.1)))) (Nat.le_of_ble_eq_true rfl) rfl rfl rfl rfl dX16_tx_98 rfl ?_
            refine md_put mdp_94 ?_
            refine ks_aload_n dX16_tx_101 rfl rfl ?_
            refine ks_getf (T := TX16) (kf := 94) kx_2462 rfl in_X16 cl_X16 (by decide) (ks_set_same _ _ _) rfl dX16_tx_102 rfl ?_
            refine ks_tv (va_up_self _ _ _) ?_
            refine ks_iret rfl dX16_tx_105 ?_
            have m9 : ∀ {a : Nat}, 374 ≤ a → a < 529 → a ∈ 290 :: LDw := fun h1 h2 => List.mem_cons_of_mem _ (mem_LDw.mpr ⟨h1, h2⟩)
            have u9 : ks_up S S43 (290 :: LDw) := K43.1.mono (fun a ha => by rw [List.mem_singleton] at ha; rw [ha]; exact List.mem_cons_self)
            have u4 := ((((u9.trans (ks_up_set S43 (a := 374) (kJ 12 (va_up ver t v)) (m9 (by decide) (by decide)))).trans (ks_up_set _ (a := 375) (kJ 12 (va_up loc t k)) (m9 (by decide) (by decide)))).trans (ks_up_set _ (a := 376) (kN 12 (va_up inp t 0)) (m9 (by decide) (by decide)))).trans (ks_up_set _ (a := 377) (kN 12 (va_up out t 0)) (m9 (by decide) (by decide))))
            refine ⟨rfl, _, ⟨u4.trans (ks_up_set _ _ List.mem_cons_self), ks_set_same _ _ _, fun z hz => ?_⟩, ?_, va_up_self _ _ _, ?_⟩
            · simp only [List.mem_cons, List.not_mem_nil, or_false, not_or] at hz
              rw [va_up_ne _ _ hz.1]
              exact K43.2.2 z (by rw [List.mem_singleton]; exact hz.2)
            · rw [va_up_ne _ _ (by decide)]
              exact v43
            · refine ⟨by omega, va_up ver t v, va_up loc t k, va_up inp t 0, va_up out t 0, ids, ix, seq, iln, val, oln, sc, so, ?_, fun i hi => ?_⟩
              · have s9 : ∀ {a : Nat} {e : ks_E}, S.2.2 a = some e → 377 < a → a < 529 → (ks_set (ks_set (ks_set (ks_set (ks_set S43 374 (kJ 12 (va_up ver t v))) 375 (kJ 12 (va_up loc t k))) 376 (kN 12 (va_up inp t 0))) 377 (kN 12 (va_up out t 0))) 290 (rfE (va_up V43 94 (.int (nI (t + 1)))))).2.2 a = some e := fun {a e} h1 h2 h3 => by
                  rw [ks_set_ne _ _ (by omega), ks_set_ne _ _ (by omega), ks_set_ne _ _ (by omega), ks_set_ne _ _ (by omega), ks_set_ne _ _ (by omega)]
                  exact K43.1.at h1 (by rw [List.mem_singleton]; omega)
                refine ⟨⟨?_, ?_, ?_, ?_⟩, ⟨s9 h378 (by decide) (by decide), kid⟩, ⟨s9 h379 (by decide) (by decide), s9 h453 (by decide) (by decide), s9 h454 (by decide) (by decide), s9 h528 (by decide) (by decide)⟩, ⟨s9 h380 (by decide) (by decide), s9 h455 (by decide) (by decide)⟩, fun r hr => s9 (hsc r hr) (by omega) (by omega), ksc, fun r hr => s9 (hso r hr) (by omega) (by omega), kso, hix⟩
                · exact (ks_set_ne _ _ (by decide)).trans ((ks_set_ne _ _ (by decide)).trans ((ks_set_ne _ _ (by decide)).trans ((ks_set_ne _ _ (by decide)).trans (ks_set_same _ _ _))))
                · exact (ks_set_ne _ _ (by decide)).trans ((ks_set_ne _ _ (by decide)).trans ((ks_set_ne _ _ (by decide)).trans (ks_set_same _ _ _)))
                · exact (ks_set_ne _ _ (by decide)).trans ((ks_set_ne _ _ (by decide)).trans (ks_set_same _ _ _))
                · exact (ks_set_ne _ _ (by decide)).trans (ks_set_same _ _ _)
              · by_cases h : i = t
                · subst h
                  rw [va_up_self]
                  refine ⟨?_, by rw [va_up_self]; decide, by rw [va_up_self]; decide, fun j hj => ?_, fun j hj => ?_⟩
                  · rw [va_up_self, va_up_self, va_up_self, va_up_self]
                    rfl
                  · rw [va_up_self] at hj
                    omega
                  · rw [va_up_self] at hj
                    omega
                · rw [va_up_ne _ _ h]
                  exact rdA_cg (A i (by omega)) (va_up_ne _ _ h) (va_up_ne _ _ h) (va_up_ne _ _ h) (va_up_ne _ _ h) (fun r _ _ => ⟨fun _ _ => rfl, rfl, rfl, rfl, rfl, rfl, rfl, rfl⟩)
          · exact absurd hc46 (by decide)
set_option maxRecDepth 100000 in
set_option maxHeartbeats 800000 in
theorem l_aoCp {l : Launch} {G : ks_G} {d : Nat} {S : ks_S} {V : Nat → Value} {P : Option Value → ks_S → Prop} {gd gs : Nat → Nat} {i9 r9 L : Nat} (hO : S.2.2 290 = some (rfE V)) (hs9 : S.2.2 531 = some (kB 1600 gs)) (kgs : kO gs) (hd9 : S.2.2 (456 + r9) = some (kB 600 gd)) (kgd : kO gd) (h455 : S.2.2 455 = some (kA 4 72 rdH)) (hr9 : r9 < 72) (hL : L ≤ 600) (vT : V 110 = .int (nI L)) (hk : ∀ S1 : ks_S, ks_up S S1 [(456 + r9)] → S1.2.2 (456 + r9) = some (kB 600 (ks_pt (fun j => gs (j)) gd 0 L)) → kO (ks_pt (fun j => gs (j)) gd 0 L) → ks_X l G mX16_addOutput d 63 [(0, .ref 290), (3, .int (nI i9)), (4, .int (nI r9))] [] S1 P) : ∀ (u i : Nat) (S1 : ks_S), i + u = L → ks_up S S1 [(456 + r9)] → S1.2.2 (456 + r9) = some (kB 600 (ks_pt (fun j => gs (j)) gd 0 i)) → ks_X l G mX16_addOutput d 31 [(0, .ref 290), (3, .int (nI i9)), (4, .int (nI r9)), (5, .int (nI i))] [] S1 P := by
  have kD : kO (fun j => gs (j)) := fun j => kgs _
  intro u
  induction u with
  | zero =>
    intro i S1 hi hu e1
    have o1 := hu.at hO (by simp only [List.mem_cons, List.not_mem_nil, or_false]; exact (by omega))
    have s1 := hu.at hs9 (by simp only [List.mem_cons, List.not_mem_nil, or_false]; exact (by omega))
    have q455 := hu.at h455 (by rw [List.mem_singleton]; omega)
    obtain rfl : i = L := hi
    refine ks_iload dX16_addOutput_31 rfl rfl ?_
    refine ks_aload_n dX16_addOutput_33 rfl rfl ?_
    refine ks_getf (T := TX16) (kf := 110) kx_2478 rfl in_X16 cl_X16 (by decide) o1 rfl dX16_addOutput_34 rfl ?_
    refine ks_tv vT ?_
    refine ks_icmp_geN (tgt := 63) (by omega) (by omega) dX16_addOutput_37 (by decide) rfl (fun h1 => ?_) (fun h1 => absurd h1 (by omega))
    refine ks_sub [(0, _), (3, _), (4, _)] rfl ?_
    exact hk S1 hu e1 (kO_pt kD kgd _ _)
  | succ u ih =>
    intro i S1 hi hu e1
    have o1 := hu.at hO (by simp only [List.mem_cons, List.not_mem_nil, or_false]; exact (by omega))
    have s1 := hu.at hs9 (by simp only [List.mem_cons, List.not_mem_nil, or_false]; exact (by omega))
    have q455 := hu.at h455 (by rw [List.mem_singleton]; omega)
    refine ks_iload dX16_addOutput_31 rfl rfl ?_
    refine ks_aload_n dX16_addOutput_33 rfl rfl ?_
    refine ks_getf (T := TX16) (kf := 110) kx_2478 rfl in_X16 cl_X16 (by decide) o1 rfl dX16_addOutput_34 rfl ?_
    refine ks_tv vT ?_
    refine ks_icmp_geN (tgt := 63) (by omega) (by omega) dX16_addOutput_37 (by decide) rfl (fun h1 => absurd h1 (by omega)) (fun h1 => ?_)
    refine ks_aload_n dX16_addOutput_40 rfl rfl ?_
    refine ks_getf (T := TX16) (kf := 104) kx_2472 rfl in_X16 cl_X16 (by decide) o1 rfl dX16_addOutput_41 rfl ?_
    refine ks_iload dX16_addOutput_44 rfl rfl ?_
    refine ks_aaldN (i := r9) (b := (456 + r9)) (by decide) q455 rfl (by omega) (by decide) (if_pos (by omega)) dX16_addOutput_46 rfl ?_
    refine ks_iload dX16_addOutput_47 rfl rfl ?_
    refine ks_aload_n dX16_addOutput_49 rfl rfl ?_
    refine ks_getf (T := TX16) (kf := 109) kx_2477 rfl in_X16 cl_X16 (by decide) o1 rfl dX16_addOutput_50 rfl ?_
    refine ks_iload dX16_addOutput_53 rfl rfl ?_
    refine ks_baldB (i := i) s1 rfl (by omega) (by decide) dX16_addOutput_55 rfl ?_
    refine ks_bastB (i := i) (c := gs i) e1 rfl (by omega) (by decide) (ks_by_b (kgs _)) dX16_addOutput_56 rfl ?_
    refine ks_incN (c := 1) (e := i + 1) dX16_addOutput_57 rfl (by decide) rfl (by decide) rfl ?_
    refine ks_sub [(5, _), (0, _), (3, _), (4, _)] rfl ?_
    refine ks_goto (tgt := 31) dX16_addOutput_60 (by decide) ?_
    refine ks_sub [(0, _), (3, _), (4, _), (5, _)] rfl (ih (i + 1) _ (by omega) (hu.trans (ks_up_set _ _ (List.mem_singleton.mpr rfl))) ?_)
    rw [ks_set_same, ← ks_pt_s]
    rw [Nat.zero_add]
set_option maxRecDepth 100000 in
set_option maxHeartbeats 1600000 in
theorem c_md_addOutput {l : Launch} {G : ks_G} {d : Nat} {S : ks_S} {V : Nat → Value} (hO : S.2.2 290 = some (rfE V)) {T : List Nat} (hB : buX S V 531 1600 110 T) {i : Nat} {v : Int64} {D : Nat → dTx} (v94 : V 94 = .int (nI (i + 1))) (hD : rdS S (i + 1) D) (ho : (D i).2.2.2.length < 6) (hT6 : T.length ≤ 600) : ks_P l G yX16_addOutput mX16_addOutput d [.ref 290, .long v] S (fun z S' => z = none ∧ ∃ V', pbK LDw [110] S S' V V' ∧ buX S' V' 531 1600 110 [] ∧ rdS S' (i + 1) (va_up D i ((D i).1, (D i).2.1, (D i).2.2.1, (D i).2.2.2 ++ [(v, T)]))) := by
  have hi12 := hD.1
  obtain ⟨-, ver, loc, inp, out, ids, ix, seq, iln, val, oln, sc, so, U, A⟩ := hD
  have hA := A i (by omega)
  have hlen := (rdS_len (S := S) (t := i) (D := D) hA).2
  rw [hlen] at ho
  obtain ⟨⟨h374, h375, h376, h377⟩, ⟨h378, kid⟩, ⟨h379, h453, h454, h528⟩, ⟨h380, h455⟩, hsc, ksc, hso, kso, hix⟩ := id U
  obtain ⟨vT, g, eT, kg, hT, em⟩ := id hB
  obtain ⟨r9, er9⟩ : ∃ r, r = 6 * i + out i := ⟨_, rfl⟩
  have hr9 : r9 < 72 := by omega
  refine ks_of (by decide) rfl rfl (Nat.le_of_ble_eq_true rfl) ?_
  show ks_X l G mX16_addOutput d 0 [(0, .ref 290), (1, .long v)] [] S _
  refine ks_aload_n dX16_addOutput_0 rfl rfl ?_
  refine ks_getf (T := TX16) (kf := 94) kx_2462 rfl in_X16 cl_X16 (by decide) hO rfl dX16_addOutput_1 rfl ?_
  refine ks_tv v94 ?_
  refine ks_iconst (x := nI 1) dX16_addOutput_4 (by decide) rfl ?_
  refine ks_subN (by omega) dX16_addOutput_5 rfl ?_
  refine ks_ti (y := nI (i)) rfl ?_
  refine ks_istore_n dX16_addOutput_6 (by decide) rfl ?_
  refine ks_sub [(3, _), (0, _), (1, _)] rfl ?_
  refine ks_bipush (x := nI 6) dX16_addOutput_7 (by decide) rfl ?_
  refine ks_iload_n dX16_addOutput_9 rfl rfl ?_
  refine ks_mulN dX16_addOutput_10 rfl ?_
  refine ks_aload_n dX16_addOutput_11 rfl rfl ?_
  refine ks_getf (T := TX16) (kf := 98) kx_2466 rfl in_X16 cl_X16 (by decide) hO rfl dX16_addOutput_12 rfl ?_
  refine ks_iload_n dX16_addOutput_15 rfl rfl ?_
  refine ks_ialdN (i := i) h377 rfl (by omega) (by decide) dX16_addOutput_16 rfl ?_
  refine ks_addN dX16_addOutput_17 rfl ?_
  rw [← er9]
  refine ks_istore dX16_addOutput_18 (by decide) rfl ?_
  refine ks_sub [(4, _), (0, _), (1, _), (3, _)] rfl ?_
  refine ks_aload_n dX16_addOutput_20 rfl rfl ?_
  refine ks_getf (T := TX16) (kf := 103) kx_2471 rfl in_X16 cl_X16 (by decide) hO rfl dX16_addOutput_21 rfl ?_
  refine ks_iload dX16_addOutput_24 rfl rfl ?_
  refine ks_lload_n dX16_addOutput_26 rfl rfl ?_
  refine ks_lastN (i := r9) h454 rfl (by omega) (by decide) dX16_addOutput_27 rfl ?_
  refine ks_iconst (x := nI 0) dX16_addOutput_28 (by decide) rfl ?_
  refine ks_istore dX16_addOutput_29 (by decide) rfl ?_
  refine ks_sub [(5, _), (0, _), (1, _), (3, _), (4, _)] rfl ?_
  obtain ⟨S1, e1⟩ : ∃ S1, S1 = ks_set S 454 (kJ 72 (va_up val r9 v)) := ⟨_, rfl⟩
  refine ks_tS (S' := S1) e1.symm ?_
  have u1 : ks_up S S1 [454] := by rw [e1]; exact ks_up_set _ _ (List.mem_singleton.mpr rfl)
  have x1 : S1.2.2 454 = some (kJ 72 (va_up val r9 v)) := by rw [e1]; exact ks_set_same _ _ _
  clear e1
  have n1 : ∀ {a : Nat}, a ≠ 454 → a ∉ [454] := fun h => by rw [List.mem_singleton]; exact h
  refine ks_sub [(0, _), (3, _), (4, _), (5, _)] rfl (l_aoCp (gd := so r9) (u1.at hO (by decide)) (u1.at eT (by decide)) kg (u1.at (hso r9 hr9) (n1 (by omega))) (kso _) (u1.at h455 (by decide)) hr9 hT6 vT (fun S2 u2 e2 k2 => ?_) T.length 0 S1 (Nat.zero_add _) (ks_up.rf _ _) (by rw [ks_pt_0]; exact u1.at (hso r9 hr9) (n1 (by omega))))
  obtain ⟨g2, eg2⟩ : ∃ z, z = ks_pt (fun j => g j) (so r9) 0 T.length := ⟨_, rfl⟩
  rw [← eg2] at e2 k2
  have eT2 : bytL g2 0 T.length = T := by
    rw [eg2, bytL_pt]
    exact em.symm
  have n2 : ∀ {a : Nat}, a ≠ 456 + r9 → a ∉ [456 + r9] := fun h => by rw [List.mem_singleton]; exact h
  have t2 : ∀ {a : Nat} {e : ks_E}, S.2.2 a = some e → a ≠ 454 → a ≠ 456 + r9 → S2.2.2 a = some e := fun h1 h2 h3 => u2.at (u1.at h1 (n1 h2)) (n2 h3)
  have o2 := t2 hO (by decide) (by omega)
  have q528 := t2 h528 (by decide) (by omega)
  have q377 := t2 h377 (by decide) (by omega)
  refine ks_aload_n dX16_addOutput_63 rfl rfl ?_
  refine ks_getf (T := TX16) (kf := 105) kx_2473 rfl in_X16 cl_X16 (by decide) o2 rfl dX16_addOutput_64 rfl ?_
  refine ks_iload dX16_addOutput_67 rfl rfl ?_
  refine ks_aload_n dX16_addOutput_69 rfl rfl ?_
  refine ks_getf (T := TX16) (kf := 110) kx_2478 rfl in_X16 cl_X16 (by decide) o2 rfl dX16_addOutput_70 rfl ?_
  refine ks_tv vT ?_
  refine ks_iastNN (i := r9) (v := T.length) (by decide) q528 (by omega) (by decide) dX16_addOutput_73 rfl ?_
  refine ks_aload_n dX16_addOutput_74 rfl rfl ?_
  refine ks_iconst (x := nI 0) dX16_addOutput_75 (by decide) rfl ?_
  refine ks_putf (T := TX16) (kf := 110) kx_2478 rfl in_X16 tyX16_ok nmX16 cl_X16 (by decide) ((ks_set_ne _ _ (by decide)).trans o2) (Nat.le_of_ble_eq_true rfl) rfl rfl rfl rfl dX16_addOutput_76 rfl ?_
  refine md_put mdp_110 ?_
  refine ks_aload_n dX16_addOutput_79 rfl rfl ?_
  refine ks_getf (T := TX16) (kf := 98) kx_2466 rfl in_X16 cl_X16 (by decide) (ks_set_same _ _ _) rfl dX16_addOutput_80 rfl ?_
  refine ks_iload_n dX16_addOutput_83 rfl rfl ?_
  refine ks_dup2_11 dX16_addOutput_84 rfl rfl rfl ?_
  refine ks_ialdN (i := i) ((ks_set_ne _ _ (by decide)).trans ((ks_set_ne _ _ (by decide)).trans q377)) rfl (by omega) (by decide) dX16_addOutput_85 rfl ?_
  refine ks_iconst (x := nI 1) dX16_addOutput_86 (by decide) rfl ?_
  refine ks_addN dX16_addOutput_87 rfl ?_
  refine ks_iastNN (i := i) (v := out i + 1) (by decide) ((ks_set_ne _ _ (by decide)).trans ((ks_set_ne _ _ (by decide)).trans q377)) (by omega) (by decide) dX16_addOutput_88 rfl ?_
  refine ks_ret rfl dX16_addOutput_89 ?_
  have m9 : ∀ {a : Nat}, 374 ≤ a → a < 529 → a ∈ 290 :: LDw := fun h1 h2 => List.mem_cons_of_mem _ (mem_LDw.mpr ⟨h1, h2⟩)
  have ua : ks_up S S2 (290 :: LDw) := (u1.mono (fun a ha => by rw [List.mem_singleton] at ha; rw [ha]; exact m9 (by decide) (by decide))).trans (u2.mono (fun a ha => by rw [List.mem_singleton] at ha; rw [ha]; exact m9 (by omega) (by omega)))
  have f1 : (ks_set (ks_set (ks_set S2 528 (kN 72 (va_up oln r9 T.length))) 290 (rfE (va_up V 110 (.int (nI 0))))) 377 (kN 12 (va_up out i (out i + 1)))).2.2 290 = some (rfE (va_up V 110 (.int (nI 0)))) := (ks_set_ne _ _ (by decide)).trans (ks_set_same _ _ _)
  have s9 : ∀ {a : Nat} {e : ks_E}, S2.2.2 a = some e → a ≠ 290 → a ≠ 377 → a ≠ 528 → (ks_set (ks_set (ks_set S2 528 (kN 72 (va_up oln r9 T.length))) 290 (rfE (va_up V 110 (.int (nI 0))))) 377 (kN 12 (va_up out i (out i + 1)))).2.2 a = some e := fun {a e} h1 h2 h3 h4 => by
    rw [ks_set_ne _ _ h3, ks_set_ne _ _ h2, ks_set_ne _ _ h4]
    exact h1
  have z9 : ∀ {a : Nat} {e : ks_E}, S.2.2 a = some e → a ≠ 454 → a ≠ 456 + r9 → a ≠ 290 → a ≠ 377 → a ≠ 528 → _ := fun {a e} h1 h2 h3 h4 h5 h6 => s9 (t2 h1 h2 h3) h4 h5 h6
  refine ⟨rfl, va_up V 110 (.int (nI 0)), ⟨((ua.trans (ks_up_set _ _ (m9 (by decide) (by decide)))).trans (ks_up_set _ _ List.mem_cons_self)).trans (ks_up_set _ _ (m9 (by decide) (by decide))), f1, fun z hz => va_up_ne _ _ (fun h => hz (by rw [h]; exact List.mem_singleton.mpr rfl))⟩, ⟨va_up_self _ _ _, g, z9 eT (by decide) (by omega) (by decide) (by decide) (by decide), kg, Nat.zero_le _, rfl⟩, hi12, ver, loc, inp, va_up out i (out i + 1), ids, ix, seq, iln, va_up val r9 v, va_up oln r9 T.length, sc, va_up so r9 g2, ?_, fun j hj => ?_⟩
  · refine ⟨⟨z9 h374 (by decide) (by omega) (by decide) (by decide) (by decide), z9 h375 (by decide) (by omega) (by decide) (by decide) (by decide), z9 h376 (by decide) (by omega) (by decide) (by decide) (by decide), ks_set_same _ _ _⟩, ⟨z9 h378 (by decide) (by omega) (by decide) (by decide) (by decide), kid⟩, ⟨z9 h379 (by decide) (by omega) (by decide) (by decide) (by decide), z9 h453 (by decide) (by omega) (by decide) (by decide) (by decide), s9 (u2.at x1 (n2 (by omega))) (by decide) (by decide) (by decide), (ks_set_ne _ _ (by decide)).trans ((ks_set_ne _ _ (by decide)).trans (ks_set_same _ _ _))⟩, ⟨z9 h380 (by decide) (by omega) (by decide) (by decide) (by decide), z9 h455 (by decide) (by omega) (by decide) (by decide) (by decide)⟩, fun r hr => z9 (hsc r hr) (by omega) (by omega) (by omega) (by omega) (by omega), ksc, fun r hr => ?_, fun r => ?_, hix⟩
    · by_cases h : r = r9
      · rw [h, va_up_self]
        exact s9 e2 (by omega) (by omega) (by omega)
      · rw [va_up_ne _ _ h]
        exact z9 (hso r hr) (by omega) (by omega) (by omega) (by omega) (by omega)
    · by_cases h : r = r9
      · rw [h, va_up_self]
        exact k2
      · rw [va_up_ne _ _ h]
        exact kso r
  · by_cases h : j = i
    · subst h
      obtain ⟨eD, h6, o6, hi6, ho6⟩ := hA
      rw [va_up_self]
      refine ⟨?_, h6, by rw [va_up_self]; omega, hi6, fun q hq => ?_⟩
      · rw [va_up_self, List.range_succ, List.map_append, eD]
        refine rd_pair rfl ?_
        refine congr (congrArg _ (List.map_congr_left (fun q hq => ?_))) ?_
        · have hq := List.mem_range.mp hq
          unfold rdO
          rw [va_up_ne _ _ (by omega), va_up_ne _ _ (by omega), va_up_ne _ _ (by omega)]
        · show [(v, T)] = [rdO (va_up val r9 v) (va_up so r9 g2) (va_up oln r9 T.length) (6 * j + out j)]
          rw [← er9]
          unfold rdO
          rw [va_up_self, va_up_self, va_up_self, eT2]
      · rw [va_up_self] at hq
        by_cases h : q = out j
        · rw [h, ← er9, va_up_self]
          exact hT6
        · rw [va_up_ne _ _ (by omega)]
          exact ho6 q (by omega)
    · rw [va_up_ne _ _ h]
      exact rdA_cg (A j hj) rfl rfl rfl (va_up_ne _ _ h) (fun r h1 h2 => ⟨fun _ _ => rfl, rfl, rfl, rfl, va_up_ne _ _ (by omega), va_up_ne _ _ (by omega), rfl, va_up_ne _ _ (by omega)⟩)
set_option maxRecDepth 100000 in
set_option maxHeartbeats 800000 in
theorem r_outputS {l : Launch} {G : ks_G} {d : Nat} {S : ks_S} {V : Nat → Value} (hO : S.2.2 290 = some (rfE V)) {t : Nat} {v : Int64} (v94 : V 94 = .int (nI t)) (ht : t ≤ 12) (h0 : t = 0) : ks_P l G yX16_output_ mX16_output_ (d + 1) [.ref 290, .long v] S (fun z S' => z = some (.int (nI 0)) ∧ ∃ V', pbK [] [111] S S' V V' ∧ V' 111 = .int (nI 1)) := by
  refine ks_of (by decide) rfl rfl (Nat.le_of_ble_eq_true rfl) ?_
  show ks_X l G mX16_output_ (d + 1) 0 [(0, .ref 290), (1, .long v)] [] S _
  refine ks_aload_n dX16_output__0 rfl rfl ?_
  refine ks_aload_n dX16_output__1 rfl rfl ?_
  refine ks_getf (T := TX16) (kf := 94) kx_2462 rfl in_X16 cl_X16 (by decide) hO rfl dX16_output__2 rfl ?_
  refine ks_tv v94 ?_
  refine ks_if_leN (tgt := 12) (by omega) dX16_output__5 (by decide) rfl (fun hc5 => ?_) (fun hc5 => ?_)
  · refine ks_iconst (x := nI 0) dX16_output__12 (by decide) rfl ?_
    refine ks_iconst (x := nI 1) dX16_output__13 (by decide) rfl ?_
    refine ks_callV (n := 2) (M' := mX16_good) (c_md_good0 hO) hO cl_X16 rfl kx_2734 kx_2736 kxp_127 kx_30 kx_2737 (by decide +kernel) rfl (by decide) (Nat.le_of_ble_eq_true rfl) rfl dX16_output__14 rfl (fun z14 S14 y14 => ?_)
    obtain ⟨rfl, V14, J14, v14⟩ := y14
    refine ks_if_eqN (tgt := 59) (by decide) dX16_output__17 (by decide) rfl (fun hc17 => ?_) (fun hc17 => ?_)
    · refine ks_iconst (x := nI 0) dX16_output__59 (by decide) rfl ?_
      refine ks_iret rfl dX16_output__60 ?_
      exact ⟨rfl, _, J14, v14⟩
    · exact absurd hc17 (by decide)
  · refine ks_iconst (x := nI 1) dX16_output__8 (by decide) rfl ?_
    refine ks_goto (tgt := 13) dX16_output__9 (by decide) ?_
    refine ks_iconst (x := nI 1) dX16_output__13 (by decide) rfl ?_
    omega
set_option maxRecDepth 100000 in
set_option maxHeartbeats 800000 in
theorem r_outputF {l : Launch} {G : ks_G} {d : Nat} {S : ks_S} {V : Nat → Value} (hO : S.2.2 290 = some (rfE V)) {i : Nat} {v : Int64} (v94 : V 94 = .int (nI (i + 1))) {D : Nat → dTx} (hD : rdS S (i + 1) D) {T : List Nat} (hB : buX S V 531 1600 110 T) (hf : ¬ ((D i).2.2.2.length ≠ 6 ∧ T.length ≤ 600)) : ks_P l G yX16_output_ mX16_output_ (d + 1) [.ref 290, .long v] S (fun z S' => z = some (.int (nI 0)) ∧ ∃ V', pbK [] [111] S S' V V' ∧ V' 111 = .int (nI 2)) := by
  have hi12 := hD.1
  obtain ⟨-, ver, loc, inp, out, ids, ix, seq, iln, val, oln, sc, so, U, A⟩ := id hD
  have hA := A i (by omega)
  have hlen := (rdS_len (S := S) (t := i) (D := D) hA).2
  have ho6 := hA.2.2.1
  obtain ⟨⟨h374, h375, h376, h377⟩, ⟨h378, kid⟩, ⟨h379, h453, h454, h528⟩, ⟨h380, h455⟩, hsc, ksc, hso, kso, hix⟩ := id U
  obtain ⟨vT, g, eT, kg, hT, em⟩ := id hB
  refine ks_of (by decide) rfl rfl (Nat.le_of_ble_eq_true rfl) ?_
  show ks_X l G mX16_output_ (d + 1) 0 [(0, .ref 290), (1, .long v)] [] S _
  refine ks_aload_n dX16_output__0 rfl rfl ?_
  refine ks_aload_n dX16_output__1 rfl rfl ?_
  refine ks_getf (T := TX16) (kf := 94) kx_2462 rfl in_X16 cl_X16 (by decide) hO rfl dX16_output__2 rfl ?_
  refine ks_tv v94 ?_
  refine ks_if_leN (tgt := 12) (by omega) dX16_output__5 (by decide) rfl (fun hc5 => ?_) (fun hc5 => ?_)
  · refine ks_iconst (x := nI 0) dX16_output__12 (by decide) rfl ?_
    refine ks_iconst (x := nI 1) dX16_output__13 (by decide) rfl ?_
    omega
  · refine ks_iconst (x := nI 1) dX16_output__8 (by decide) rfl ?_
    refine ks_goto (tgt := 13) dX16_output__9 (by decide) ?_
    refine ks_iconst (x := nI 1) dX16_output__13 (by decide) rfl ?_
    refine ks_callV (n := 2) (M' := mX16_good) (c_md_good1 hO) hO cl_X16 rfl kx_2734 kx_2736 kxp_127 kx_30 kx_2737 (by decide +kernel) rfl (by decide) (Nat.le_of_ble_eq_true rfl) rfl dX16_output__14 rfl (fun z14 S14 y14 => ?_)
    obtain ⟨rfl, V14, J14, v14⟩ := y14
    refine ks_if_eqN (tgt := 59) (by decide) dX16_output__17 (by decide) rfl (fun hc17 => ?_) (fun hc17 => ?_)
    · exact absurd hc17 (by decide)
    · refine ks_aload_n dX16_output__20 rfl rfl ?_
      refine ks_aload_n dX16_output__21 rfl rfl ?_
      refine ks_getf (T := TX16) (kf := 98) kx_2466 rfl in_X16 cl_X16 (by decide) J14.2.1 rfl dX16_output__22 rfl ?_
      refine ks_aload_n dX16_output__25 rfl rfl ?_
      refine ks_getf (T := TX16) (kf := 94) kx_2462 rfl in_X16 cl_X16 (by decide) J14.2.1 rfl dX16_output__26 rfl ?_
      refine ks_tv ((J14.2.2 94 (by decide)).trans v94) ?_
      refine ks_iconst (x := nI 1) dX16_output__29 (by decide) rfl ?_
      refine ks_subN (by omega) dX16_output__30 rfl ?_
      refine ks_ti (y := nI (i)) rfl ?_
      refine ks_ialdN (i := i) (J14.1.at h377 (by decide)) rfl (by omega) (by decide) dX16_output__31 rfl ?_
      refine ks_bipush (x := nI 6) dX16_output__32 (by decide) rfl ?_
      refine ks_icmp_geN (tgt := 51) (by omega) (by decide) dX16_output__34 (by decide) rfl (fun hc34 => ?_) (fun hc34 => ?_)
      · refine ks_iconst (x := nI 0) dX16_output__51 (by decide) rfl ?_
        refine ks_iconst (x := nI 2) dX16_output__52 (by decide) rfl ?_
        refine ks_callV (n := 2) (M' := mX16_good) (c_md_good0 J14.2.1) J14.2.1 cl_X16 rfl kx_2734 kx_2736 kxp_127 kx_30 kx_2737 (by decide +kernel) rfl (by decide) (Nat.le_of_ble_eq_true rfl) rfl dX16_output__53 rfl (fun z53 S53 y53 => ?_)
        obtain ⟨rfl, V53, J53, v53⟩ := y53
        have K53 := J14.trans J53
        refine ks_if_neN (tgt := 61) (by decide) dX16_output__56 (by decide) rfl (fun hc56 => ?_) (fun hc56 => ?_)
        · exact absurd hc56 (by decide)
        · refine ks_iconst (x := nI 0) dX16_output__59 (by decide) rfl ?_
          refine ks_iret rfl dX16_output__60 ?_
          exact ⟨rfl, _, K53, v53⟩
      · refine ks_aload_n dX16_output__37 rfl rfl ?_
        refine ks_getf (T := TX16) (kf := 110) kx_2478 rfl in_X16 cl_X16 (by decide) J14.2.1 rfl dX16_output__38 rfl ?_
        refine ks_tv ((J14.2.2 110 (by decide)).trans vT) ?_
        refine ks_sipush (x := nI 600) dX16_output__41 (by decide) rfl ?_
        refine ks_icmp_gtN (tgt := 51) (by omega) (by decide) dX16_output__44 (by decide) rfl (fun hc44 => ?_) (fun hc44 => ?_)
        · refine ks_iconst (x := nI 0) dX16_output__51 (by decide) rfl ?_
          refine ks_iconst (x := nI 2) dX16_output__52 (by decide) rfl ?_
          refine ks_callV (n := 2) (M' := mX16_good) (c_md_good0 J14.2.1) J14.2.1 cl_X16 rfl kx_2734 kx_2736 kxp_127 kx_30 kx_2737 (by decide +kernel) rfl (by decide) (Nat.le_of_ble_eq_true rfl) rfl dX16_output__53 rfl (fun z53 S53 y53 => ?_)
          obtain ⟨rfl, V53, J53, v53⟩ := y53
          have K53 := J14.trans J53
          refine ks_if_neN (tgt := 61) (by decide) dX16_output__56 (by decide) rfl (fun hc56 => ?_) (fun hc56 => ?_)
          · exact absurd hc56 (by decide)
          · refine ks_iconst (x := nI 0) dX16_output__59 (by decide) rfl ?_
            refine ks_iret rfl dX16_output__60 ?_
            exact ⟨rfl, _, K53, v53⟩
        · refine ks_iconst (x := nI 1) dX16_output__47 (by decide) rfl ?_
          refine ks_goto (tgt := 52) dX16_output__48 (by decide) ?_
          refine ks_iconst (x := nI 2) dX16_output__52 (by decide) rfl ?_
          exact absurd ⟨by rw [hlen]; omega, by omega⟩ hf
set_option maxRecDepth 100000 in
set_option maxHeartbeats 800000 in
theorem c_mr_output {l : Launch} {G : ks_G} {d : Nat} {S : ks_S} {V : Nat → Value} (hO : S.2.2 290 = some (rfE V)) {i : Nat} {v : Int64} (v94 : V 94 = .int (nI (i + 1))) {D : Nat → dTx} (hD : rdS S (i + 1) D) {T : List Nat} (hB : buX S V 531 1600 110 T) (ho : (D i).2.2.2.length < 6) (hT6 : T.length ≤ 600) : ks_P l G yX16_output_ mX16_output_ (d + 1) [.ref 290, .long v] S (fun z S' => z = some (.int (nI ((D i).2.2.2.length + 1))) ∧ ∃ V', pbK LDw [110, 111] S S' V V' ∧ V' 111 = .int (nI 0) ∧ buX S' V' 531 1600 110 [] ∧ rdS S' (i + 1) (va_up D i ((D i).1, (D i).2.1, (D i).2.2.1, (D i).2.2.2 ++ [(v, T)]))) := by
  have hi12 := hD.1
  obtain ⟨-, ver, loc, inp, out, ids, ix, seq, iln, val, oln, sc, so, U, A⟩ := id hD
  have hA := A i (by omega)
  have hlen := (rdS_len (S := S) (t := i) (D := D) hA).2
  have ho6 := hA.2.2.1
  obtain ⟨⟨h374, h375, h376, h377⟩, ⟨h378, kid⟩, ⟨h379, h453, h454, h528⟩, ⟨h380, h455⟩, hsc, ksc, hso, kso, hix⟩ := id U
  obtain ⟨vT, g, eT, kg, hT, em⟩ := id hB
  refine ks_of (by decide) rfl rfl (Nat.le_of_ble_eq_true rfl) ?_
  show ks_X l G mX16_output_ (d + 1) 0 [(0, .ref 290), (1, .long v)] [] S _
  refine ks_aload_n dX16_output__0 rfl rfl ?_
  refine ks_aload_n dX16_output__1 rfl rfl ?_
  refine ks_getf (T := TX16) (kf := 94) kx_2462 rfl in_X16 cl_X16 (by decide) hO rfl dX16_output__2 rfl ?_
  refine ks_tv v94 ?_
  refine ks_if_leN (tgt := 12) (by omega) dX16_output__5 (by decide) rfl (fun hc5 => ?_) (fun hc5 => ?_)
  · refine ks_iconst (x := nI 0) dX16_output__12 (by decide) rfl ?_
    refine ks_iconst (x := nI 1) dX16_output__13 (by decide) rfl ?_
    omega
  · refine ks_iconst (x := nI 1) dX16_output__8 (by decide) rfl ?_
    refine ks_goto (tgt := 13) dX16_output__9 (by decide) ?_
    refine ks_iconst (x := nI 1) dX16_output__13 (by decide) rfl ?_
    refine ks_callV (n := 2) (M' := mX16_good) (c_md_good1 hO) hO cl_X16 rfl kx_2734 kx_2736 kxp_127 kx_30 kx_2737 (by decide +kernel) rfl (by decide) (Nat.le_of_ble_eq_true rfl) rfl dX16_output__14 rfl (fun z14 S14 y14 => ?_)
    obtain ⟨rfl, V14, J14, v14⟩ := y14
    refine ks_if_eqN (tgt := 59) (by decide) dX16_output__17 (by decide) rfl (fun hc17 => ?_) (fun hc17 => ?_)
    · exact absurd hc17 (by decide)
    · refine ks_aload_n dX16_output__20 rfl rfl ?_
      refine ks_aload_n dX16_output__21 rfl rfl ?_
      refine ks_getf (T := TX16) (kf := 98) kx_2466 rfl in_X16 cl_X16 (by decide) J14.2.1 rfl dX16_output__22 rfl ?_
      refine ks_aload_n dX16_output__25 rfl rfl ?_
      refine ks_getf (T := TX16) (kf := 94) kx_2462 rfl in_X16 cl_X16 (by decide) J14.2.1 rfl dX16_output__26 rfl ?_
      refine ks_tv ((J14.2.2 94 (by decide)).trans v94) ?_
      refine ks_iconst (x := nI 1) dX16_output__29 (by decide) rfl ?_
      refine ks_subN (by omega) dX16_output__30 rfl ?_
      refine ks_ti (y := nI (i)) rfl ?_
      refine ks_ialdN (i := i) (J14.1.at h377 (by decide)) rfl (by omega) (by decide) dX16_output__31 rfl ?_
      refine ks_bipush (x := nI 6) dX16_output__32 (by decide) rfl ?_
      refine ks_icmp_geN (tgt := 51) (by omega) (by decide) dX16_output__34 (by decide) rfl (fun hc34 => ?_) (fun hc34 => ?_)
      · refine ks_iconst (x := nI 0) dX16_output__51 (by decide) rfl ?_
        refine ks_iconst (x := nI 2) dX16_output__52 (by decide) rfl ?_
        omega
      · refine ks_aload_n dX16_output__37 rfl rfl ?_
        refine ks_getf (T := TX16) (kf := 110) kx_2478 rfl in_X16 cl_X16 (by decide) J14.2.1 rfl dX16_output__38 rfl ?_
        refine ks_tv ((J14.2.2 110 (by decide)).trans vT) ?_
        refine ks_sipush (x := nI 600) dX16_output__41 (by decide) rfl ?_
        refine ks_icmp_gtN (tgt := 51) (by omega) (by decide) dX16_output__44 (by decide) rfl (fun hc44 => ?_) (fun hc44 => ?_)
        · refine ks_iconst (x := nI 0) dX16_output__51 (by decide) rfl ?_
          refine ks_iconst (x := nI 2) dX16_output__52 (by decide) rfl ?_
          omega
        · refine ks_iconst (x := nI 1) dX16_output__47 (by decide) rfl ?_
          refine ks_goto (tgt := 52) dX16_output__48 (by decide) ?_
          refine ks_iconst (x := nI 2) dX16_output__52 (by decide) rfl ?_
          refine ks_callV (n := 2) (M' := mX16_good) (c_md_good1 J14.2.1) J14.2.1 cl_X16 rfl kx_2734 kx_2736 kxp_127 kx_30 kx_2737 (by decide +kernel) rfl (by decide) (Nat.le_of_ble_eq_true rfl) rfl dX16_output__53 rfl (fun z53 S53 y53 => ?_)
          obtain ⟨rfl, V53, J53, v53⟩ := y53
          have K53 := J14.trans J53
          refine ks_if_neN (tgt := 61) (by decide) dX16_output__56 (by decide) rfl (fun hc56 => ?_) (fun hc56 => ?_)
          · refine ks_aload_n dX16_output__61 rfl rfl ?_
            refine ks_lload_n dX16_output__62 rfl rfl ?_
            have B9 : buX S53 V53 531 1600 110 T := K53.bu hB (by decide) (by decide)
            have D9 := hD.up K53.1 (fun x hx => by rw [List.mem_singleton] at hx; omega)
            refine ks_callV (n := 1) (M' := mX16_addOutput) (c_md_addOutput (v := v) K53.2.1 B9 ((K53.2.2 94 (by decide)).trans v94) D9 (by rw [hlen]; omega) (by omega)) J53.2.1 cl_X16 rfl kx_1959 kx_1961 kxp_54 kx_30 kx_1962 (by decide +kernel) rfl (by decide) (Nat.le_of_ble_eq_true rfl) rfl dX16_output__63 rfl (fun z7 S7 y7 => ?_)
            obtain ⟨rfl, V7, J7, B7, D7⟩ := y7
            have K7 : pbK LDw [110, 111] S S7 V V7 := (K53.mono (fun a h => absurd h List.not_mem_nil) (by decide)).trans (J7.mono (fun a h => h) (by decide))
            obtain ⟨-, ver7, loc7, inp7, out7, ids7, ix7, seq7, iln7, val7, oln7, sc7, so7, U7, A7⟩ := id D7
            have l7 := (rdS_len (S := S) (t := i) (D := va_up D i ((D i).1, (D i).2.1, (D i).2.2.1, (D i).2.2.2 ++ [(v, T)])) (A7 i (by omega))).2
            have v947 : V7 94 = .int (nI (i + 1)) := (K7.2.2 94 (by decide)).trans v94
            rw [va_up_self] at l7
            have l8 : out7 i = (D i).2.2.2.length + 1 := by rw [← l7]; exact List.length_append
            refine ks_aload_n dX16_output__66 rfl rfl ?_
            refine ks_getf (T := TX16) (kf := 98) kx_2466 rfl in_X16 cl_X16 (by decide) J7.2.1 rfl dX16_output__67 rfl ?_
            refine ks_aload_n dX16_output__70 rfl rfl ?_
            refine ks_getf (T := TX16) (kf := 94) kx_2462 rfl in_X16 cl_X16 (by decide) J7.2.1 rfl dX16_output__71 rfl ?_
            refine ks_tv v947 ?_
            refine ks_iconst (x := nI 1) dX16_output__74 (by decide) rfl ?_
            refine ks_subN (by omega) dX16_output__75 rfl ?_
            refine ks_ti (y := nI (i)) rfl ?_
            refine ks_ialdN (i := i) U7.1.2.2.2 rfl (by omega) (by decide) dX16_output__76 rfl ?_
            refine ks_iret rfl dX16_output__77 ?_
            exact ⟨by rw [l8], V7, K7, (J7.2.2 111 (by decide)).trans v53, B7, D7⟩
          · exact absurd hc56 (by decide)
