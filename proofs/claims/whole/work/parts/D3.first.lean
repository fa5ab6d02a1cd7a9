/-! THE JUDGE: the first block -/
theorem rc_from {f g : Nat → Nat} {p L most b : Nat} (hb : b ≤ p) (h : ∀ j, b ≤ j → j < L → f j = g j) : rc f p L most = rc g p L most := by
  unfold rc
  by_cases c : L ≤ p
  · rw [if_pos c, if_pos c]
  · rw [if_neg c, if_neg c, h p hb (by omega)]
    by_cases c2 : p + 3 ≤ L
    · rw [ks_num_congr 2 (p + 1) (p + 1) (fun j hj => h _ (by omega) (by omega))]
    · simp only [c2, false_and, and_false, if_false]
theorem ip_from {f g : Nat → Nat} {L p b : Nat} (hb : b ≤ p) (h : ∀ j, b ≤ j → j < L → f j = g j) : ∀ k, ip f L p k = ip g L p k ∧ ∀ a, ip g L p k = some a → b ≤ a
  | 0 => ⟨rfl, fun a ha => by cases ha; exact hb⟩
  | k + 1 => by
    obtain ⟨e, ge⟩ := ip_from hb h k
    unfold ip
    rw [e]
    cases hq : ip g L p k with
    | none => exact ⟨rfl, fun a ha => by cases ha⟩
    | some a =>
      have := ge a hq
      have er := rc_from (f := f) (g := g) (p := a + 36) (most := L) (by omega : b ≤ a + 36) h
      dsimp only
      rw [er]
      refine ⟨rfl, fun c hc => ?_⟩
      cases hr : rc g (a + 36) L L with
      | none => rw [hr] at hc; cases hc
      | some z =>
        have := rc_some hr
        rw [hr] at hc
        cases hc
        omega
theorem ot_from {f g : Nat → Nat} {L p b : Nat} (hb : b ≤ p) (h : ∀ j, b ≤ j → j < L → f j = g j) : ∀ k, ot f L p k = ot g L p k ∧ ∀ a, ot g L p k = some a → b ≤ a
  | 0 => ⟨rfl, fun a ha => by cases ha; exact hb⟩
  | k + 1 => by
    obtain ⟨e, ge⟩ := ot_from hb h k
    unfold ot
    rw [e]
    cases hq : ot g L p k with
    | none => exact ⟨rfl, fun a ha => by cases ha⟩
    | some a =>
      have := ge a hq
      have er := rc_from (f := f) (g := g) (p := a + 8) (most := L) (by omega : b ≤ a + 8) h
      dsimp only
      rw [er]
      refine ⟨rfl, fun c hc => ?_⟩
      cases hr : rc g (a + 8) L L with
      | none => rw [hr] at hc; cases hc
      | some z =>
        have := rc_some hr
        rw [hr] at hc
        cases hc
        omega
theorem tx_from {f g : Nat → Nat} {L b : Nat} (h : ∀ j, b ≤ j → j < L → f j = g j) : tx_ f b L = tx_ g b L := by
  unfold tx_
  rw [rc_from (g := g) (by omega) h]
  cases h1 : rc g (b + 4) L 40 with
  | none => rfl
  | some z =>
    obtain ⟨k, p⟩ := z
    have := rc_some h1
    dsimp only
    obtain ⟨e1, g1⟩ := ip_from (p := p) (by omega : b ≤ p) h k
    rw [e1]
    cases h2 : ip g L p k with
    | none => rfl
    | some q =>
      have := g1 q h2
      dsimp only
      rw [rc_from (g := g) (by omega) h]
      cases h3 : rc g q L 180 with
      | none => rfl
      | some z =>
        obtain ⟨m, u⟩ := z
        have := rc_some h3
        dsimp only
        rw [(ot_from (p := u) (by omega : b ≤ u) h m).1]
/-- the one transaction of the first block -/
def fsT : dTx := (lN 1, lN 0, [(bytL (fun _ => 0) 0 32, -1, [0, 0], lN 4294967295)], [(lN 5000000000, [81])])
/-- the first block before its nonce is sought -/
def fsM (Ds : Nat → dTx) : List Nat := drH 0 (bytL (fun _ => 0) 0 32) (lN 1000000) (nI 545259519) Ds 1 ++ cntL 1 ++ catT Ds 1
def fsB (Ds : Nat → dTx) : List Nat := sNc (fsM Ds) (fnN (fsM Ds) true (tg_num 545259519) 4096 0)
theorem fsM_e {Ds : Nat → dTx} (h : Ds 0 = fsT) : ∃ A C, A.length = 72 ∧ C.length = 4 ∧ fsM Ds = A ++ numL (nI 545259519).toInt64 4 ++ (C ++ [1] ++ txL fsT) := by
  refine ⟨numL (lN 1) 4 ++ bytL (fun _ => 0) 0 32 ++ bytL (drR 0 Ds 1) 0 32 ++ numL (lN 1000000) 4, numL (lN 0) 4, by simp [numL_len, bytL_len], numL_len _ _, ?_⟩
  unfold fsM drH
  rw [show catT Ds 1 = txL fsT from by rw [← h]; rfl, if_neg (by decide), if_neg (by decide), if_neg (by decide)]
  simp [List.append_assoc]
  rfl
theorem fsT_len : (txL fsT).length = 63 := by decide +kernel
theorem fsM_len {Ds : Nat → dTx} (h : Ds 0 = fsT) : (fsM Ds).length = 144 := by
  obtain ⟨A, C, h1, h2, h3⟩ := fsM_e h
  rw [h3]
  simp only [List.length_append, numL_len, h1, h2, fsT_len, List.length_singleton]
theorem fs_tx : tx_ (mg (List.replicate 80 0 ++ [1] ++ txL fsT)) 81 144 = some (1, 86, 1, 130, 144) := by decide +kernel
theorem fsB_ok {Ds : Nat → dTx} (h : Ds 0 = fsT) (i : Nat) : (sNc (fsM Ds) i).length = 144 ∧ mg (sNc (fsM Ds) i) 80 = 1 ∧ blk_ (mg (sNc (fsM Ds) i)) 144 = true ∧ btB (sNc (fsM Ds) i) = 545259519 := by
  have hl := fsM_len h
  obtain ⟨A, C, h1, h2, h3⟩ := fsM_e h
  have ga : ∀ j, 80 ≤ j → j < 144 → mg (sNc (fsM Ds) i) j = mg (List.replicate 80 0 ++ [1] ++ txL fsT) j := by
    intro j h4 h5
    rw [sNc_at (by omega), if_neg (by omega), if_neg (by omega), h3]
    have e1 : mg (A ++ numL (nI 545259519).toInt64 4 ++ (C ++ [1] ++ txL fsT)) j = ([1] ++ txL fsT).getD (j - 80) 0 := by
      rw [show A ++ numL (nI 545259519).toInt64 4 ++ (C ++ [1] ++ txL fsT) = (A ++ numL (nI 545259519).toInt64 4 ++ C) ++ ([1] ++ txL fsT) ++ [] by simp [List.append_assoc]]
      exact mg_app _ _ _ (by simp only [List.length_append, numL_len, h1, h2]; omega) (by simp only [List.length_append, List.length_singleton, fsT_len]; omega)
    have e2 : mg (List.replicate 80 0 ++ [1] ++ txL fsT) j = ([1] ++ txL fsT).getD (j - 80) 0 := by
      rw [show List.replicate 80 0 ++ [1] ++ txL fsT = List.replicate 80 0 ++ ([1] ++ txL fsT) ++ [] by simp [List.append_assoc]]
      exact mg_app _ _ _ (by rw [List.length_replicate]; omega) (by simp only [List.length_append, List.length_singleton, fsT_len]; omega)
    rw [e1, e2]
  have g80 : mg (sNc (fsM Ds) i) 80 = 1 := by
    rw [ga 80 (by decide) (by decide)]
    decide +kernel
  refine ⟨by rw [sNc_len, hl], g80, ?_, ?_⟩
  · unfold blk_
    rw [g80]
    refine decide_eq_true ⟨by decide, by decide, ?_⟩
    show (match tx_ (mg (sNc (fsM Ds) i)) 81 144 with | none => none | some (_, _, _, _, e) => some e) = some 144
    rw [tx_from (g := mg (List.replicate 80 0 ++ [1] ++ txL fsT)) (fun j h4 h5 => ga j (by omega) h5), fs_tx]
  · unfold btB
    rw [ks_num_congr (g' := fun j => (numL (nI 545259519).toInt64 4).getD j 0) 4 72 0 (fun j hj => by
      rw [sNc_at (by omega), if_neg (by omega), if_neg (by omega), h3]
      exact mg_app _ _ _ (by omega) (by rw [numL_len]; omega))]
    decide +kernel
set_option maxRecDepth 100000 in
set_option maxHeartbeats 1600000 in
theorem c_jd_keepFirst {l : Launch} {G : ks_G} {d : Nat} {S : ks_S} {dc dp : Nat} {dt : Int64} {rs : Int32} (h0 : S.2.2 0 = some (jdO dc dp dt rs)) {Ds : Nat → dTx} {od ow : Option (List Nat)} {gi0 gr0 : Nat → Nat} {N0 : Nat} {tk : Int64} {B : Nat → Bk} (hT : bfS S 1 2 1600 (some [])) (hD : dfS S Ds) (hK : ks_stOK S) (hh : hsO S) (hR : tvR S) (hw : bfS S 5 6 8000 ow) (hd : bfS S 3 4 1600 od) (h53 : S.2.2 53 = some (kB 384 gi0)) (kg0 : kO gi0) (h54 : S.2.2 54 = some (kB 32 gr0)) (kr0 : kO gr0) (h55 : S.2.2 55 = some (kB 32 (fun _ => 0))) (hTg : tg_ok S N0) (hX : chX S 0 0 (nI 0) tk B) (hF : chF S 0 B none) (hL : coS S []) (h284 : S.1 = 284) : ks_P l G yX11_keepFirstBlock mX11_keepFirstBlock (d + 9) [.ref 0] S (fun z S' => z = none ∧ ks_ex S S' (0 :: [1, 2, 3, 4, 5, 6, 8, 9, 10, 11, 12, 13, 20, 21, 22, 23, 24, 25, 26, 41, 42, 45, 46, 47, 50, 53, 54] ++ dxL 56) ∧ S'.1 = S.1 + 6 ∧ S'.2.1 ≤ S.2.1 + 2440 ∧ S'.2.2 0 = some (jdO 1 dp (lN 1000000) rs) ∧ hsO S' ∧ tvR S' ∧ (∃ N, tg_ok S' N) ∧ (∃ f, S'.2.2 50 = some (kN 580 f)) ∧ bfS S' 1 2 1600 (some []) ∧ (∃ o, bfS S' 3 4 1600 o) ∧ (∃ o, bfS S' 5 6 8000 o) ∧ (∃ g, kO g ∧ S'.2.2 53 = some (kB 384 g)) ∧ (∃ g, kO g ∧ S'.2.2 54 = some (kB 32 g)) ∧ dfS S' (va_up Ds 0 fsT) ∧ (adC (fun _ => (S.1, fsB (va_up Ds 0 fsT), 0, 0, 2 ^ 256 / (tg_num 545259519 + 1), false, none)) 0 0 (txP (fsB (va_up Ds 0 fsT)) 0).2.2.1 0 []).length ≤ 180 ∧ (∃ cc, chX S' 1 0 cc tk (fun _ => (S.1, fsB (va_up Ds 0 fsT), 0, 0, 2 ^ 256 / (tg_num 545259519 + 1), false, some (S.1 + 5, (adC (fun _ => (S.1, fsB (va_up Ds 0 fsT), 0, 0, 2 ^ 256 / (tg_num 545259519 + 1), false, none)) 0 0 (txP (fsB (va_up Ds 0 fsT)) 0).2.2.1 0 []))))) ∧ chF S' 1 (fun _ => (S.1, fsB (va_up Ds 0 fsT), 0, 0, 2 ^ 256 / (tg_num 545259519 + 1), false, some (S.1 + 5, (adC (fun _ => (S.1, fsB (va_up Ds 0 fsT), 0, 0, 2 ^ 256 / (tg_num 545259519 + 1), false, none)) 0 0 (txP (fsB (va_up Ds 0 fsT)) 0).2.2.1 0 [])))) none) := by
  have h0 : S.2.2 0 = some (.inr (14, [.ref 1, .ref 3, .ref 5, .ref 7, .ref 14, .ref 20, .ref 27, .ref 41, .ref 52, .ref 53, .ref 54, .ref 55, .int (nI dc), .int (nI dp), .long dt, .int rs])) := h0
  obtain ⟨len, g, kg, hl16, e2, e1, ⟨hl, hg⟩⟩ := id hT
  have h52 := hD.1
  have hx := hD.2 0 (by decide)
  obtain ⟨xsz, xid, xix, xsq, xvl, xsc, xU, -, -⟩ := dx_len hx
  have x0 := xU.1
  have n9 : ∀ x, x < 56 → x ∉ dxL (56 + 19 * 0) := fun x h hx => by have := dxL_me hx; omega
  refine ks_of (by decide) rfl rfl (Nat.le_of_ble_eq_true rfl) ?_
  show ks_X l G mX11_keepFirstBlock (d + 9) 0 [(0, .ref 0)] [] S _
  refine ks_aload_n dX11_keepFirstBlock_0 rfl rfl ?_
  refine ks_getf (T := TX11) (kf := 8) kx_1061 rfl in_X11 cl_X11 (by decide) h0 rfl dX11_keepFirstBlock_1 rfl ?_
  refine ks_iconst (x := nI 0) dX11_keepFirstBlock_4 (by decide) rfl ?_
  refine ks_aaldN (i := 0) (b := (56 + 19 * 0)) (by decide) h52 rfl (by decide) (by decide) (if_pos (by omega)) dX11_keepFirstBlock_5 rfl ?_
  refine ks_lconst (x := lN 1) dX11_keepFirstBlock_6 (by decide) rfl ?_
  refine ks_lconst (x := lN 0) dX11_keepFirstBlock_7 (by decide) rfl ?_
  refine ks_callV (n := 2) (M' := mX4_begin) (c_begin (d := d + 8) (ve2 := lN 1) (lo2 := lN 0) hx) x0 cl_X4 rfl kx_824 kx_825 kx_826 kx_28 kx_827 (by decide +kernel) rfl (by decide) (Nat.le_of_ble_eq_true rfl) rfl dX11_keepFirstBlock_8 rfl (fun z1 T1 y1 => ?_)
  obtain ⟨rfl, u1, X1⟩ := y1
  have n1 : ∀ x, x < 56 → x ∉ [56 + 19 * 0] := fun x h hx => by rw [List.mem_singleton] at hx; omega
  have a1 := u1.at h0 (n1 _ (by decide))
  have t1 := hT.up u1 (n1 _ (by decide)) (n1 _ (by decide))
  obtain ⟨l1, g1, -, -, -, o1, -⟩ := id t1
  refine ks_aload_n dX11_keepFirstBlock_11 rfl rfl ?_
  refine ks_getf (T := TX11) (kf := 0) kx_1053 rfl in_X11 cl_X11 (by decide) a1 rfl dX11_keepFirstBlock_12 rfl ?_
  refine ks_lconst (x := lN 0) dX11_keepFirstBlock_15 (by decide) rfl ?_
  refine ks_iconst (x := nI 2) dX11_keepFirstBlock_16 (by decide) rfl ?_
  refine ks_callV (n := 2) (M' := mX1_addNumber) (bf_number (d := d + 8) (v := lN 0) (sz := 2) t1 (by decide) (by decide)) o1 cl_X1 rfl kx_828 kx_829 kx_830 kx_2 kx_831 (by decide +kernel) rfl (by decide) (Nat.le_of_ble_eq_true rfl) rfl dX11_keepFirstBlock_17 rfl (fun z2 T2 y2 => ?_)
  obtain ⟨rfl, u2, t2⟩ := y2
  rw [show numL (lN 0) 2 = [0, 0] from by decide +kernel, bfA_fit (by decide), List.nil_append] at t2
  have a2 := u2.at a1 (by decide)
  have l2 : ∀ x ∈ ([2, 1] : List Nat), x < 56 := by decide
  have X2 := X1.up u2 (fun x hx => by have := l2 x hx; omega)
  have c52 := u2.at (u1.at h52 (n1 _ (by decide))) (by decide)
  have c55 := u2.at (u1.at h55 (n1 _ (by decide))) (by decide)
  obtain ⟨ysz, yid, yix, ysq, yvl, ysc, yU, -, -⟩ := dx_len X2
  have y0 := yU.1
  obtain ⟨l2', g2, -, -, -, o2, -⟩ := id t2
  refine ks_aload_n dX11_keepFirstBlock_20 rfl rfl ?_
  refine ks_getf (T := TX11) (kf := 8) kx_1061 rfl in_X11 cl_X11 (by decide) a2 rfl dX11_keepFirstBlock_21 rfl ?_
  refine ks_iconst (x := nI 0) dX11_keepFirstBlock_24 (by decide) rfl ?_
  refine ks_aaldN (i := 0) (b := (56 + 19 * 0)) (by decide) c52 rfl (by decide) (by decide) (if_pos (by omega)) dX11_keepFirstBlock_25 rfl ?_
  refine ks_aload_n dX11_keepFirstBlock_26 rfl rfl ?_
  refine ks_getf (T := TX11) (kf := 11) kx_1064 rfl in_X11 cl_X11 (by decide) a2 rfl dX11_keepFirstBlock_27 rfl ?_
  refine ks_iconst (x := nI 0) dX11_keepFirstBlock_30 (by decide) rfl ?_
  refine ks_iconst (x := (-1)) dX11_keepFirstBlock_31 (by decide) rfl ?_
  refine ks_ldc2 dX11_keepFirstBlock_32 kx_832 rfl ?_
  refine ks_tl (y := lN 4294967295) rfl ?_
  refine ks_aload_n dX11_keepFirstBlock_35 rfl rfl ?_
  refine ks_getf (T := TX11) (kf := 0) kx_1053 rfl in_X11 cl_X11 (by decide) a2 rfl dX11_keepFirstBlock_36 rfl ?_
  refine ks_callV (n := 5) (M' := mX4_addInput) (c_addInput (d := d + 6) (x := -1) (q := lN 4294967295) (u := 0) X2 t2 (by decide) (by decide) (by decide) c55 kO_zero (by decide) (by decide) (by decide) (by decide)) y0 cl_X4 rfl kx_833 kx_834 kx_835 kx_28 kx_836 (by decide +kernel) rfl (by decide) (Nat.le_of_ble_eq_true rfl) rfl dX11_keepFirstBlock_39 rfl (fun z3 T3 y3 => ?_)
  obtain ⟨rfl, u3, X3⟩ := y3
  have a3 := u3.at a2 (n9 _ (by decide))
  have t3 := t2.up u3 (n9 _ (by decide)) (n9 _ (by decide))
  obtain ⟨l3, g3, -, -, -, o3, -⟩ := id t3
  refine ks_aload_n dX11_keepFirstBlock_42 rfl rfl ?_
  refine ks_getf (T := TX11) (kf := 0) kx_1053 rfl in_X11 cl_X11 (by decide) a3 rfl dX11_keepFirstBlock_43 rfl ?_
  refine ks_callV (n := 0) (M' := mX1_clear) (bf_clear (d := d + 8) t3) o3 cl_X1 rfl kx_842 kx_843 kx_844 kx_2 kx_845 (by decide +kernel) rfl (by decide) (Nat.le_of_ble_eq_true rfl) rfl dX11_keepFirstBlock_46 rfl (fun z4 T4 y4 => ?_)
  obtain ⟨rfl, u4, t4⟩ := y4
  have a4 := u4.at a3 (by decide)
  obtain ⟨l4, g4, -, -, -, o4, -⟩ := id t4
  refine ks_aload_n dX11_keepFirstBlock_49 rfl rfl ?_
  refine ks_getf (T := TX11) (kf := 0) kx_1053 rfl in_X11 cl_X11 (by decide) a4 rfl dX11_keepFirstBlock_50 rfl ?_
  refine ks_ldc2 dX11_keepFirstBlock_53 kx_846 rfl ?_
  refine ks_tl (y := lN 81) rfl ?_
  refine ks_iconst (x := nI 1) dX11_keepFirstBlock_56 (by decide) rfl ?_
  refine ks_callV (n := 2) (M' := mX1_addNumber) (bf_number (d := d + 8) (v := lN 81) (sz := 1) t4 (by decide) (by decide)) o4 cl_X1 rfl kx_828 kx_829 kx_830 kx_2 kx_831 (by decide +kernel) rfl (by decide) (Nat.le_of_ble_eq_true rfl) rfl dX11_keepFirstBlock_57 rfl (fun z5 T5 y5 => ?_)
  obtain ⟨rfl, u5, t5⟩ := y5
  rw [show numL (lN 81) 1 = [81] from by decide +kernel, bfA_fit (by decide), List.nil_append] at t5
  have a5 := u5.at a4 (by decide)
  have X5 := (X3.up u4 (fun x hx => by have := l2 x hx; omega)).up u5 (fun x hx => by have := l2 x hx; omega)
  have d52 := u5.at (u4.at (u3.at c52 (n9 _ (by decide))) (by decide)) (by decide)
  obtain ⟨zsz, zid, zix, zsq, zvl, zsc, zU, -, -⟩ := dx_len X5
  have z0' := zU.1
  obtain ⟨l5, g5, -, -, -, o5, -⟩ := id t5
  refine ks_aload_n dX11_keepFirstBlock_60 rfl rfl ?_
  refine ks_getf (T := TX11) (kf := 8) kx_1061 rfl in_X11 cl_X11 (by decide) a5 rfl dX11_keepFirstBlock_61 rfl ?_
  refine ks_iconst (x := nI 0) dX11_keepFirstBlock_64 (by decide) rfl ?_
  refine ks_aaldN (i := 0) (b := (56 + 19 * 0)) (by decide) d52 rfl (by decide) (by decide) (if_pos (by omega)) dX11_keepFirstBlock_65 rfl ?_
  refine ks_ldc2 dX11_keepFirstBlock_66 kx_847 rfl ?_
  refine ks_tl (y := lN 5000000000) rfl ?_
  refine ks_aload_n dX11_keepFirstBlock_69 rfl rfl ?_
  refine ks_getf (T := TX11) (kf := 0) kx_1053 rfl in_X11 cl_X11 (by decide) a5 rfl dX11_keepFirstBlock_70 rfl ?_
  refine ks_callV (n := 2) (M' := mX4_addOutput) (c_addOutput (d := d + 6) (v := lN 5000000000) X5 t5 (by decide) (by decide) (by decide) (by decide)) z0' cl_X4 rfl kx_848 kx_849 kx_850 kx_28 kx_851 (by decide +kernel) rfl (by decide) (Nat.le_of_ble_eq_true rfl) rfl dX11_keepFirstBlock_73 rfl (fun z6 T6 y6 => ?_)
  obtain ⟨rfl, u6, X6⟩ := y6
  have X6 : dx_ok T6 (56 + 19 * 0) fsT := X6
  have a6 := u6.at a5 (n9 _ (by decide))
  have t6 := t5.up u6 (n9 _ (by decide)) (n9 _ (by decide))
  obtain ⟨l6, g6, -, -, -, o6, -⟩ := id t6
  refine ks_aload_n dX11_keepFirstBlock_76 rfl rfl ?_
  refine ks_getf (T := TX11) (kf := 0) kx_1053 rfl in_X11 cl_X11 (by decide) a6 rfl dX11_keepFirstBlock_77 rfl ?_
  refine ks_callV (n := 0) (M' := mX1_clear) (bf_clear (d := d + 8) t6) o6 cl_X1 rfl kx_842 kx_843 kx_844 kx_2 kx_845 (by decide +kernel) rfl (by decide) (Nat.le_of_ble_eq_true rfl) rfl dX11_keepFirstBlock_80 rfl (fun z7 T7 y7 => ?_)
  obtain ⟨rfl, u7, t7⟩ := y7
  have a7 := u7.at a6 (by decide)
  refine ks_aload_n dX11_keepFirstBlock_83 rfl rfl ?_
  refine ks_iconst (x := nI 1) dX11_keepFirstBlock_84 (by decide) rfl ?_
  refine ks_putf (T := TX11) (kf := 12) kx_1065 rfl in_X11 tyX11_ok nmX11 cl_X11 (by decide) a7 (Nat.le_of_ble_eq_true rfl) rfl rfl rfl rfl dX11_keepFirstBlock_85 rfl ?_
  refine ks_aload_n dX11_keepFirstBlock_88 rfl rfl ?_
  refine ks_ldc2 dX11_keepFirstBlock_89 kx_852 rfl ?_
  refine ks_tl (y := lN 1000000) rfl ?_
  refine ks_putf (T := TX11) (kf := 14) kx_1067 rfl in_X11 tyX11_ok nmX11 cl_X11 (by decide) (ks_set_same _ _ _) (Nat.le_of_ble_eq_true rfl) rfl rfl rfl rfl dX11_keepFirstBlock_92 rfl ?_
  refine ks_aload_n dX11_keepFirstBlock_95 rfl rfl ?_
  refine ks_iconst (x := nI 0) dX11_keepFirstBlock_96 (by decide) rfl ?_
  refine ks_aload_n dX11_keepFirstBlock_97 rfl rfl ?_
  refine ks_getf (T := TX11) (kf := 11) kx_1064 rfl in_X11 cl_X11 (by decide) (ks_set_same _ _ _) rfl dX11_keepFirstBlock_98 rfl ?_
  refine ks_ldcw dX11_keepFirstBlock_101 kx_853 rfl ?_
  refine ks_ti (y := nI 545259519) rfl ?_
  obtain ⟨T8, hT8⟩ : ∃ T8 : ks_S, T8 = ks_set T7 0 (jdO 1 dp (lN 1000000) rs) := ⟨_, rfl⟩
  refine ks_tS (S' := T8) (by rw [hT8, ks_set_set]; rfl) ?_
  have u8 : ks_up T7 T8 [0] := by rw [hT8]; exact ks_up_set _ _ (List.mem_singleton.mpr rfl)
  have a8 : T8.2.2 0 = some (jdO 1 dp (lN 1000000) rs) := by rw [hT8]; exact ks_set_same _ _ _
  clear hT8
  have m2 : ∀ x, x ∈ [2, 1] → x ∈ 0 :: 1 :: 2 :: dxL (56 + 19 * 0) := by intro x hx; simp only [List.mem_cons, List.not_mem_nil, or_false] at hx ⊢; omega
  have m9 : ∀ x, x ∈ dxL (56 + 19 * 0) → x ∈ 0 :: 1 :: 2 :: dxL (56 + 19 * 0) := fun x hx => List.mem_cons_of_mem _ (List.mem_cons_of_mem _ (List.mem_cons_of_mem _ hx))
  have uA : ks_up S T8 (0 :: 1 :: 2 :: dxL (56 + 19 * 0)) := (u1.mono (fun x hx => m9 x (by rw [List.mem_singleton.mp hx]; exact dxL_in (by omega)))).trans ((u2.mono m2).trans ((u3.mono m9).trans ((u4.mono m2).trans ((u5.mono m2).trans ((u6.mono m9).trans ((u7.mono m2).trans (u8.mono (fun x hx => by rw [List.mem_singleton.mp hx]; exact List.mem_cons_self))))))))
  have nA : ∀ x, 2 < x → x < 56 → x ∉ 0 :: 1 :: 2 :: dxL (56 + 19 * 0) := by
    intro x h1 h2 hx
    rcases List.mem_cons.mp hx with h | hx
    · omega
    · rcases List.mem_cons.mp hx with h | hx
      · omega
      · rcases List.mem_cons.mp hx with h | hx
        · omega
        · exact n9 x h2 hx
  have L56 : ∀ x ∈ 0 :: 1 :: 2 :: dxL (56 + 19 * 0), x < 3 ∨ (56 ≤ x ∧ x ≤ 74) := by
    intro x hx
    rcases List.mem_cons.mp hx with h | hx
    · omega
    · rcases List.mem_cons.mp hx with h | hx
      · omega
      · rcases List.mem_cons.mp hx with h | hx
        · omega
        · have := dxL_me hx; omega
  have X8 := (X6.up u7 (fun x hx => by have := l2 x hx; omega)).up u8 (fun x hx => by rw [List.mem_singleton.mp hx]; omega)
  have D8 : dfS T8 (va_up Ds 0 fsT) := by
    refine ⟨uA.at h52 (nA _ (by decide) (by decide)), fun j hj => ?_⟩
    by_cases e : j = 0
    · subst e; rw [va_up_self]; exact X8
    · rw [va_up_ne _ _ e]
      exact (hD.2 j hj).up uA (fun x hx => by have := L56 x hx; omega)
  have K8 := uA.st hK (fun x hx => by have := L56 x hx; unfold ks_B; omega)
  have hh8 := hsO_ex hh uA.ex (fun x hx => by have := L56 x hx; omega) (by omega)
  have R8 := tvR_ex hR uA.ex (fun x hx => by have := L56 x hx; omega) (by omega)
  have w8 := hw.up uA (nA _ (by decide) (by decide)) (nA _ (by decide) (by decide))
  have d8 := hd.up uA (nA _ (by decide) (by decide)) (nA _ (by decide) (by decide))
  have g53 := uA.at h53 (nA _ (by decide) (by decide))
  have g54 := uA.at h54 (nA _ (by decide) (by decide))
  have g55 := uA.at h55 (nA _ (by decide) (by decide))
  have Tg8 := hTg.ag (fun a q1 q2 => uA.2.2 a (nA a (by omega) (by omega)))
  have t8 := t7.up u8 (by decide) (by decide)
  have O8 := uA.at hX.1 (nA _ (by decide) (by decide))
  have eD : va_up Ds 0 fsT 0 = fsT := va_up_self _ _ _
  have eM : drC (drH 0 (bytL (fun _ => 0) 0 32) (lN 1000000) (nI 545259519) (va_up Ds 0 fsT) 1 ++ cntL 1) (va_up Ds 0 fsT) 1 = some (fsM (va_up Ds 0 fsT)) := by
    unfold drC
    rw [if_pos (by have := fsM_len eD; unfold fsM at this; rw [this]; decide)]
    rfl
  refine ks_callV (n := 3) (M' := mX11_draw) (c_jd_draw0 (d := d + 2) (bt := 545259519) a8 D8 (by decide) K8 hh8 w8 d8 g53 kg0 g54 kr0 g55 g55 kO_zero (by decide)) a8 cl_X11 rfl kx_854 kx_856 kxp_6 kx_1 kx_857 (by decide +kernel) rfl (by decide) (Nat.le_of_ble_eq_true rfl) rfl dX11_keepFirstBlock_104 rfl (fun z9 T9 y9 => ?_)
  obtain ⟨rfl, u9, hh9, ⟨ow9, w9⟩, ⟨h53', k53, e53⟩, ⟨h54', k54, e54⟩, b9⟩ := y9
  rw [eM] at b9
  have fl := fsM_len eD
  have a9 := u9.at a8 (by decide)
  have O9 := u9.at O8 (by decide)
  have Tg9 := Tg8.up u9 (by decide) (by decide) (fun h => absurd h (by decide)) (fun h => absurd h (by decide))
  have K9 := u9.st K8 (by unfold ks_B; decide)
  refine ks_aload_n dX11_keepFirstBlock_107 rfl rfl ?_
  refine ks_ldcw dX11_keepFirstBlock_108 kx_853 rfl ?_
  refine ks_ti (y := nI 545259519) rfl ?_
  refine ks_iconst (x := nI 1) dX11_keepFirstBlock_111 (by decide) rfl ?_
  refine ks_ti (y := ks_bo true) rfl ?_
  refine ks_callV (n := 2) (M' := mX11_findNonce) (c_jd_findNonce (d := d + 3) (wn := true) (bt := 545259519) a9 O9 b9 (by omega) Tg9 (by decide) hh9 K9 e54 k54) a9 cl_X11 rfl kx_912 kx_914 kxp_10 kx_1 kx_915 (by decide +kernel) rfl (by decide) (Nat.le_of_ble_eq_true rfl) rfl dX11_keepFirstBlock_112 rfl (fun z10 T10 y10 => ?_)
  obtain ⟨rfl, u10, hh10, ⟨N10, Tg10⟩, ⟨h54b, k54b, e54b⟩, b10⟩ := y10
  rw [show sNc (fsM (va_up Ds 0 fsT)) (fnN (fsM (va_up Ds 0 fsT)) true (tg_num 545259519) 4096 0) = fsB (va_up Ds 0 fsT) from rfl] at b10
  obtain ⟨q1, q2, q3, q4⟩ := fsB_ok eD (fnN (fsM (va_up Ds 0 fsT)) true (tg_num 545259519) 4096 0)
  rw [show sNc (fsM (va_up Ds 0 fsT)) (fnN (fsM (va_up Ds 0 fsT)) true (tg_num 545259519) 4096 0) = fsB (va_up Ds 0 fsT) from rfl] at q1 q2 q3 q4
  have uB : ks_up T8 T10 [3, 4, 5, 6, 8, 9, 10, 11, 12, 13, 45, 53, 54] := (u9.mono (by decide)).trans (u10.mono (by decide))
  have a10 := uB.at a8 (by decide)
  have X10 : chX T10 0 0 (nI 0) tk B := ⟨uB.at O8 (by decide), by
    obtain ⟨-, ⟨bf, g1, g2⟩, -⟩ := hX
    exact ⟨bf, uB.at (uA.at g1 (nA _ (by decide) (by decide))) (by decide), g2⟩, fun i hi => absurd hi (Nat.not_lt_zero i), by decide⟩
  have F10 := hF.ag (B' := B) (show T10.2.2 42 = S.2.2 42 from (uB.2.2 42 (by decide)).trans (uA.2.2 42 (nA _ (by decide) (by decide))))
  have L10 : coS T10 [] := by
    obtain ⟨f, g1, g2, g3⟩ := hL
    exact ⟨f, uB.at (uA.at g1 (nA _ (by decide) (by decide))) (by decide), g2, g3⟩
  have s10 : T10.1 = S.1 := by rw [uB.1, uA.1]
  have s10' : T10.2.1 = S.2.1 := by rw [uB.2.1, uA.2.1]
  have O10 := X10.1
  have K10 := uB.st K8 (by unfold ks_B; decide)
  have R10 := tvR_ex R8 uB.ex (by decide) (by rw [uA.1]; omega)
  refine ks_aload_n dX11_keepFirstBlock_115 rfl rfl ?_
  refine ks_getf (T := TX11) (kf := 7) kx_1060 rfl in_X11 cl_X11 (by decide) a10 rfl dX11_keepFirstBlock_116 rfl ?_
  refine ks_aload_n dX11_keepFirstBlock_119 rfl rfl ?_
  refine ks_getf (T := TX11) (kf := 1) kx_1054 rfl in_X11 cl_X11 (by decide) a10 rfl dX11_keepFirstBlock_120 rfl ?_
  refine ks_callV (n := 1) (M' := mX2_keepFirst) (c_ch_keepFirst (d := d + 2) X10 F10 L10 (by omega) (by rw [s10, h284]; decide) b10 (by decide) hh10 R10 K10 Tg10 (by rw [q1]; exact q3) q2 (by rw [q4]; decide +kernel)) O10 cl_X2 rfl kx_926 kx_927 kx_928 kx_26 kx_929 (by decide +kernel) rfl (by decide) (Nat.le_of_ble_eq_true rfl) rfl dX11_keepFirstBlock_123 rfl (fun z11 T11 y11 => ?_)
  obtain ⟨rfl, ex, sz1, sz2, hh11, R11, Tg11, h50b, al, hX11, F11⟩ := y11
  rw [q4, s10] at al hX11 F11
  have t10 := t8.up uB (by decide) (by decide)
  have w10 : bfS T10 5 6 8000 ow9 := w9.up u10 (by decide) (by decide)
  have D10 := D8.up uB (by decide)
  have m55 : ∀ x, x ∈ [9, 8, 10, 11, 12, 20, 21, 22, 23, 24, 25, 26, 41, 42, 45, 46, 47, 50] → x ∈ 0 :: [1, 2, 3, 4, 5, 6, 8, 9, 10, 11, 12, 13, 20, 21, 22, 23, 24, 25, 26, 41, 42, 45, 46, 47, 50, 53, 54] ++ dxL 56 := fun x hx => List.mem_append_left _ ((by decide : ∀ x, x ∈ [9, 8, 10, 11, 12, 20, 21, 22, 23, 24, 25, 26, 41, 42, 45, 46, 47, 50] → x ∈ 0 :: [1, 2, 3, 4, 5, 6, 8, 9, 10, 11, 12, 13, 20, 21, 22, 23, 24, 25, 26, 41, 42, 45, 46, 47, 50, 53, 54]) x hx)
  refine ks_ret rfl dX11_keepFirstBlock_126 ?_
  refine ⟨rfl, (uA.ex.mono ?_).trans ((uB.ex.mono ?_).trans (ex.mono m55)), by rw [sz1, s10], by rw [s10'] at sz2; exact sz2, ex.at a10 (by decide) (by omega), hh11, R11, Tg11, h50b, bfS_ex t10 ex (by decide) (by decide) (by omega) (by omega), ⟨_, bfS_ex b10 ex (by decide) (by decide) (by omega) (by omega)⟩, ⟨_, bfS_ex w10 ex (by decide) (by decide) (by omega) (by omega)⟩, ⟨_, k53, ex.at (u10.at e53 (by decide)) (by decide) (by omega)⟩, ⟨_, k54b, ex.at e54b (by decide) (by omega)⟩, D10.ex ex (by decide) (by omega), al, hX11, F11⟩
  · intro x hx
    rcases List.mem_cons.mp hx with h | hx
    · subst h; exact List.mem_append_left _ (by decide)
    · rcases List.mem_cons.mp hx with h | hx
      · subst h; exact List.mem_append_left _ (by decide)
      · rcases List.mem_cons.mp hx with h | hx
        · subst h; exact List.mem_append_left _ (by decide)
        · exact List.mem_append_right _ hx
  · intro x hx
    exact List.mem_append_left _ ((by decide : ∀ x, x ∈ [3, 4, 5, 6, 8, 9, 10, 11, 12, 13, 45, 53, 54] → x ∈ 0 :: [1, 2, 3, 4, 5, 6, 8, 9, 10, 11, 12, 13, 20, 21, 22, 23, 24, 25, 26, 41, 42, 45, 46, 47, 50, 53, 54]) x hx)
