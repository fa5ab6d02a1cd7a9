/-! THE JUDGE: pushes and inputs -/
theorem dPush_an : ∀ {l : List dIn} {i : Nat} {x : dIn} (c : List Nat), l[i]? = some x → (dPush l i c)[i]? = some (x.1, x.2.1, x.2.2.1 ++ c, x.2.2.2)
  | [], i, x, c, h => by simp at h
  | y :: r, 0, x, c, h => by
    simp at h
    subst h
    simp [dPush]
  | y :: r, i + 1, x, c, h => by
    simp at h
    simp [dPush, dPush_an c h]
theorem pushL_len (c : List Nat) : (pushL c).length = psz c.length := by
  unfold pushL pushH psz
  by_cases h1 : c.length < 76
  · simp only [if_pos h1, List.length_append, List.length_cons, List.length_nil]; omega
  · by_cases h2 : c.length < 256
    · simp only [if_neg h1, if_pos h2, List.length_append, List.length_cons, List.length_nil]; omega
    · simp only [if_neg h1, if_neg h2, List.length_append, List.length_cons, List.length_nil]; omega
theorem dx_sz {D : List dIn} {id : Nat → Nat} {ix : Nat → Int32} {sc : Nat → Nat → Nat} {sz : Nat → Nat} {sq : Nat → Int64} (h : D = (List.range D.length).map (dxI id ix sc sz sq)) {i : Nat} {x : dIn} (hx : D[i]? = some x) : sz i = x.2.2.1.length := by
  rw [h] at hx
  have hi : i < D.length := by
    rcases Nat.lt_or_ge i D.length with h | h
    · exact h
    · simp [h] at hx
  simp [hi] at hx
  rw [← hx]
  show sz i = (bytL (sc i) 0 (sz i)).length
  rw [bytL_len]
set_option maxRecDepth 100000 in
set_option maxHeartbeats 800000 in
theorem c_jd_push {l : Launch} {G : ks_G} {d : Nat} {S : ks_S} {dc dp : Nat} {dt : Int64} {rs : Int32} (h0 : S.2.2 0 = some (jdO dc dp dt rs)) {T : List Nat} (hT : bfS S 1 2 1600 (some T)) {Ds : Nat → dTx} (hD : dfS S Ds) (hdc : 0 < dc ∧ dc ≤ 12) {i : Nat} {x : dIn} (hxi : (Ds (dc - 1)).2.2.1[i]? = some x) (hfit : x.2.2.1.length + psz T.length ≤ 600) : ks_P l G yX11_push mX11_push (d + 3) [.ref 0, .int (nI i)] S (fun z S' => z = some (.int (nI (x.2.2.1.length + psz T.length))) ∧ ks_up S S' (1 :: 2 :: dxL (56 + 19 * (dc - 1))) ∧ bfS S' 1 2 1600 (some []) ∧ dfS S' (va_up Ds (dc - 1) ((Ds (dc - 1)).1, (Ds (dc - 1)).2.1, dPush (Ds (dc - 1)).2.2.1 i (pushL T), (Ds (dc - 1)).2.2.2))) := by
  have h0 : S.2.2 0 = some (.inr (14, [.ref 1, .ref 3, .ref 5, .ref 7, .ref 14, .ref 20, .ref 27, .ref 41, .ref 52, .ref 53, .ref 54, .ref 55, .int (nI dc), .int (nI dp), .long dt, .int rs])) := h0
  obtain ⟨len, g, kg, hl16, e2, e1, ⟨hl, hg⟩⟩ := id hT
  have h52 := hD.1
  have hx := hD.2 (dc - 1) (by omega)
  obtain ⟨xsz, xid, xix, xsq, xvl, xsc, xU, xI, xO⟩ := dx_len hx
  have xB := xU.2.2.2.2.2.2.2.2.2.2.2.2.2.2
  have xk := xU.2.2.2.2.2.2.2.2.2.2.1
  have xm := xU.2.2.2.2.2.2.2.2.2.2.2.1
  have x0 := xU.1
  have x1 := xU.2.1
  have hik : i < (Ds (dc - 1)).2.2.1.length := by
    rcases Nat.lt_or_ge i (Ds (dc - 1)).2.2.1.length with h | h
    · exact h
    · simp [h] at hxi
  have hszi := dx_sz xI hxi
  have hps : psz len = psz T.length := by rw [hl]
  refine ks_of (by decide) rfl rfl (Nat.le_of_ble_eq_true rfl) ?_
  show ks_X l G mX11_push (d + 3) 0 [(0, .ref 0), (1, .int (nI i))] [] S _
  refine ks_aload_n dX11_push_0 rfl rfl ?_
  refine ks_getf (T := TX11) (kf := 12) kx_1065 rfl in_X11 cl_X11 (by decide) h0 rfl dX11_push_1 rfl ?_
  refine ks_if_neN (tgt := 15) (by omega) dX11_push_4 (by decide) rfl (fun h1 => ?_) (fun h1 => absurd h1 (by omega))
  refine ks_aload_n dX11_push_15 rfl rfl ?_
  refine ks_getf (T := TX11) (kf := 8) kx_1061 rfl in_X11 cl_X11 (by decide) h0 rfl dX11_push_16 rfl ?_
  refine ks_aload_n dX11_push_19 rfl rfl ?_
  refine ks_getf (T := TX11) (kf := 12) kx_1065 rfl in_X11 cl_X11 (by decide) h0 rfl dX11_push_20 rfl ?_
  refine ks_iconst (x := nI 1) dX11_push_23 (by decide) rfl ?_
  refine ks_subN (by omega) dX11_push_24 rfl ?_
  refine ks_aaldN (i := dc - 1) (b := (56 + 19 * (dc - 1))) (by decide) h52 rfl (by omega) (by decide) (if_pos (by omega)) dX11_push_25 rfl ?_
  refine ks_astore_n dX11_push_26 (by decide) rfl ?_
  refine ks_sub [(2, _), (0, _), (1, _)] rfl ?_
  refine ks_iload_n dX11_push_27 rfl rfl ?_
  refine ks_if_ltN (tgt := 39) (by omega) dX11_push_28 (by decide) rfl ?_
  refine ks_iload_n dX11_push_31 rfl rfl ?_
  refine ks_aload_n dX11_push_32 rfl rfl ?_
  refine ks_getf (T := TX4) (kf := 0) kx_787 rfl in_X4 cl_X4 (by decide) x0 rfl dX11_push_33 rfl ?_
  refine ks_icmp_ltN (tgt := 47) (by omega) (by omega) dX11_push_36 (by decide) rfl (fun h2 => ?_) (fun h2 => absurd h2 (by omega))
  refine ks_aload_n dX11_push_47 rfl rfl ?_
  refine ks_getf (T := TX4) (kf := 2) kx_791 rfl in_X4 cl_X4 (by decide) x0 rfl dX11_push_48 rfl ?_
  refine ks_iload_n dX11_push_51 rfl rfl ?_
  refine ks_ialdN (i := i) x1 rfl (by omega) (by decide) dX11_push_52 rfl ?_
  refine ks_aload_n dX11_push_53 rfl rfl ?_
  refine ks_getf (T := TX11) (kf := 0) kx_1053 rfl in_X11 cl_X11 (by decide) h0 rfl dX11_push_54 rfl ?_
  refine ks_getf (T := TX1) (kf := 1) kx_59 rfl in_X1 cl_X1 (by decide) e1 rfl dX11_push_57 rfl ?_
  refine ks_callS (n := 1) (M' := mX4_pushSize) (c_pushSize (d := d + 2) (n := len) (by omega)) kx_1310 kx_1311 kx_28 kx_1312 (by decide +kernel) rfl (by decide) (Nat.le_of_ble_eq_true rfl) rfl dX11_push_60 rfl (fun z1 T1 y1 => ?_)
  obtain ⟨rfl, hT1⟩ := y1
  obtain rfl := hT1.symm
  refine ks_addN dX11_push_63 rfl ?_
  refine ks_sipush (x := nI 600) dX11_push_64 (by decide) rfl ?_
  refine ks_icmp_leN (tgt := 78) (by omega) (by decide) dX11_push_67 (by decide) rfl (fun h3 => ?_) (fun h3 => absurd h3 (by omega))
  refine ks_aload_n dX11_push_78 rfl rfl ?_
  refine ks_iload_n dX11_push_79 rfl rfl ?_
  refine ks_aload_n dX11_push_80 rfl rfl ?_
  refine ks_getf (T := TX11) (kf := 0) kx_1053 rfl in_X11 cl_X11 (by decide) h0 rfl dX11_push_81 rfl ?_
  refine ks_callV (n := 2) (M' := mX4_addPush) (c_addPush (d := d + 1) hx hT (by omega) (by decide) hxi hfit) x0 cl_X4 rfl kx_1313 kx_1314 kx_1315 kx_28 kx_1316 (by decide +kernel) rfl (by decide) (Nat.le_of_ble_eq_true rfl) rfl dX11_push_84 rfl (fun z2 T2 y2 => ?_)
  obtain ⟨rfl, w2, X2⟩ := y2
  have n9 : ∀ x, x < 56 → x ∉ dxL (56 + 19 * (dc - 1)) := fun x h hx => by have := dxL_me hx; omega
  have a0 := w2.at h0 (n9 _ (by decide))
  have B2 := hT.up w2 (n9 _ (by decide)) (n9 _ (by decide))
  have D2 := hD.put (by omega) w2 X2
  obtain ⟨len2, g2, -, -, -, a1, -⟩ := id B2
  refine ks_aload_n dX11_push_87 rfl rfl ?_
  refine ks_getf (T := TX11) (kf := 0) kx_1053 rfl in_X11 cl_X11 (by decide) a0 rfl dX11_push_88 rfl ?_
  refine ks_callV (n := 0) (M' := mX1_clear) (bf_clear (d := d + 2) B2) a1 cl_X1 rfl kx_842 kx_843 kx_844 kx_2 kx_845 (by decide +kernel) rfl (by decide) (Nat.le_of_ble_eq_true rfl) rfl dX11_push_91 rfl (fun z3 T3 y3 => ?_)
  obtain ⟨rfl, w3, B3⟩ := y3
  have X3 := X2.up w3 (fun x hx => by simp only [List.mem_cons, List.not_mem_nil, or_false] at hx; omega)
  obtain ⟨ysz, yid, yix, ysq, yvl, ysc, yU, yI, -⟩ := dx_len X3
  have y0 := yU.1
  have y1 := yU.2.1
  have hyz := dx_sz yI (dPush_an (pushL T) hxi)
  rw [show ((x.1, x.2.1, x.2.2.1 ++ pushL T, x.2.2.2) : dIn).2.2.1 = x.2.2.1 ++ pushL T from rfl, List.length_append, pushL_len] at hyz
  refine ks_aload_n dX11_push_94 rfl rfl ?_
  refine ks_getf (T := TX4) (kf := 2) kx_791 rfl in_X4 cl_X4 (by decide) y0 rfl dX11_push_95 rfl ?_
  refine ks_iload_n dX11_push_98 rfl rfl ?_
  refine ks_ialdN (i := i) y1 rfl (by omega) (by decide) dX11_push_99 rfl ?_
  refine ks_iret rfl dX11_push_100 ?_
  rw [hyz]
  exact ⟨rfl, (w2.mono (fun x hx => List.mem_cons_of_mem _ (List.mem_cons_of_mem _ hx))).trans (w3.mono (fun x hx => by simp only [List.mem_cons, List.not_mem_nil, or_false] at hx ⊢; omega)), B3, D2.up w3 (by decide)⟩
set_option maxRecDepth 100000 in
set_option maxHeartbeats 800000 in
theorem c_jd_inputZ {l : Launch} {G : ks_G} {d : Nat} {S : ks_S} {dc dp : Nat} {dt : Int64} {rs : Int32} (h0 : S.2.2 0 = some (jdO dc dp dt rs)) {T : List Nat} (hT : bfS S 1 2 1600 (some T)) {n best : Nat} {cc : Int32} {tk : Int64} {B : Nat → Bk} (hX : chX S n best cc tk B) {Ds : Nat → dTx} (hD : dfS S Ds) (hdc : 0 < dc ∧ dc ≤ 12) {q : Int64} {ix tt : Int32} (hq : unL q = false) (hT6 : T.length ≤ 600) (ho : (Ds (dc - 1)).2.2.1.length < 6) (h55 : S.2.2 55 = some (kB 32 (fun _ => 0))) : ks_P l G yX11_input mX11_input (d + 6) [.ref 0, .int (-1), .int tt, .int ix, .long q] S (fun z S' => z = some (.int (nI ((Ds (dc - 1)).2.2.1.length + 1))) ∧ ks_up S S' (1 :: 2 :: dxL (56 + 19 * (dc - 1))) ∧ bfS S' 1 2 1600 (some []) ∧ dfS S' (va_up Ds (dc - 1) ((Ds (dc - 1)).1, (Ds (dc - 1)).2.1, (Ds (dc - 1)).2.2.1 ++ [(bytL (fun _ => 0) 0 32, (-1), T, q)], (Ds (dc - 1)).2.2.2))) := by
  have h0j := h0
  have h0 : S.2.2 0 = some (.inr (14, [.ref 1, .ref 3, .ref 5, .ref 7, .ref 14, .ref 20, .ref 27, .ref 41, .ref 52, .ref 53, .ref 54, .ref 55, .int (nI dc), .int (nI dp), .long dt, .int rs])) := h0
  obtain ⟨len, g, kg, hl16, e2, e1, ⟨hl, hg⟩⟩ := id hT
  obtain ⟨hO, ⟨bf, h42, hbf⟩, hB, hn60⟩ := id hX
  have h52 := hD.1
  have hx := hD.2 (dc - 1) (by omega)
  obtain ⟨xsz, xid, xix, xsq, xvl, xsc, xU, xI, xO⟩ := dx_len hx
  have xB := xU.2.2.2.2.2.2.2.2.2.2.2.2.2.2
  have xk := xU.2.2.2.2.2.2.2.2.2.2.1
  have xm := xU.2.2.2.2.2.2.2.2.2.2.2.1
  have x0 := xU.1
  have x1 := xU.2.1
  refine ks_of (by decide) rfl rfl (Nat.le_of_ble_eq_true rfl) ?_
  show ks_X l G mX11_input (d + 6) 0 [(0, .ref 0), (1, .int (-1)), (2, .int tt), (3, .int ix), (4, .long q)] [] S _
  refine ks_lload dX11_input_0 rfl rfl ?_
  refine ks_callS (n := 1) (M' := mX11_isNotUnsigned) (c_jd_unsigned (d := d + 5) (v := q)) kx_1259 kx_1260 kx_1 kx_1261 (by decide +kernel) rfl (by decide) (Nat.le_of_ble_eq_true rfl) rfl dX11_input_2 rfl (fun z1 T1 y1 => ?_)
  obtain ⟨rfl, hT1⟩ := y1
  obtain rfl := hT1.symm
  rw [hq]
  refine ks_if_neZ (tgt := 28) dX11_input_5 (by decide) rfl (fun h => absurd h (by decide)) (fun _ => ?_)
  refine ks_iload_n dX11_input_8 rfl rfl ?_
  refine ks_bipush (x := (-2)) dX11_input_9 (by decide) rfl ?_
  refine ks_icmp_lt (tgt := 28) dX11_input_11 (by decide) rfl (fun h => absurd h (by decide)) (fun _ => ?_)
  refine ks_iload_n dX11_input_14 rfl rfl ?_
  refine ks_iconst (x := (-1)) dX11_input_15 (by decide) rfl ?_
  refine ks_icmp_eq (tgt := 36) dX11_input_16 (by decide) rfl (fun _ => ?_) (fun h => absurd h (by decide))
  refine ks_aload_n dX11_input_36 rfl rfl ?_
  refine ks_getf (T := TX11) (kf := 12) kx_1065 rfl in_X11 cl_X11 (by decide) h0 rfl dX11_input_37 rfl ?_
  refine ks_if_neN (tgt := 51) (by omega) dX11_input_40 (by decide) rfl (fun h5 => ?_) (fun h5 => absurd h5 (by omega))
  refine ks_aload_n dX11_input_51 rfl rfl ?_
  refine ks_getf (T := TX11) (kf := 8) kx_1061 rfl in_X11 cl_X11 (by decide) h0 rfl dX11_input_52 rfl ?_
  refine ks_aload_n dX11_input_55 rfl rfl ?_
  refine ks_getf (T := TX11) (kf := 12) kx_1065 rfl in_X11 cl_X11 (by decide) h0 rfl dX11_input_56 rfl ?_
  refine ks_iconst (x := nI 1) dX11_input_59 (by decide) rfl ?_
  refine ks_subN (by omega) dX11_input_60 rfl ?_
  refine ks_aaldN (i := dc - 1) (b := (56 + 19 * (dc - 1))) (by decide) h52 rfl (by omega) (by decide) (if_pos (by omega)) dX11_input_61 rfl ?_
  refine ks_astore dX11_input_62 (by decide) rfl ?_
  refine ks_sub [(6, _), (0, _), (1, _), (2, _), (3, _), (4, _)] rfl ?_
  refine ks_aload dX11_input_64 rfl rfl ?_
  refine ks_getf (T := TX4) (kf := 0) kx_787 rfl in_X4 cl_X4 (by decide) x0 rfl dX11_input_66 rfl ?_
  refine ks_bipush (x := nI 6) dX11_input_69 (by decide) rfl ?_
  refine ks_icmp_eqN (tgt := 87) (by omega) (by decide) dX11_input_71 (by decide) rfl (fun h6 => absurd h6 (by omega)) (fun h6 => ?_)
  refine ks_aload_n dX11_input_74 rfl rfl ?_
  refine ks_getf (T := TX11) (kf := 0) kx_1053 rfl in_X11 cl_X11 (by decide) h0 rfl dX11_input_75 rfl ?_
  refine ks_getf (T := TX1) (kf := 1) kx_59 rfl in_X1 cl_X1 (by decide) e1 rfl dX11_input_78 rfl ?_
  refine ks_sipush (x := nI 600) dX11_input_81 (by decide) rfl ?_
  refine ks_icmp_leN (tgt := 95) (by omega) (by decide) dX11_input_84 (by decide) rfl (fun h7 => ?_) (fun h7 => absurd h7 (by omega))
  refine ks_iload_n dX11_input_95 rfl rfl ?_
  refine ks_iconst (x := (-1)) dX11_input_96 (by decide) rfl ?_
  refine ks_icmp_ne (tgt := 120) dX11_input_97 (by decide) rfl (fun h => absurd h (by decide)) (fun _ => ?_)
  refine ks_aload dX11_input_100 rfl rfl ?_
  refine ks_aload_n dX11_input_102 rfl rfl ?_
  refine ks_getf (T := TX11) (kf := 11) kx_1064 rfl in_X11 cl_X11 (by decide) h0 rfl dX11_input_103 rfl ?_
  refine ks_iconst (x := nI 0) dX11_input_106 (by decide) rfl ?_
  refine ks_iconst (x := (-1)) dX11_input_107 (by decide) rfl ?_
  refine ks_lload dX11_input_108 rfl rfl ?_
  refine ks_aload_n dX11_input_110 rfl rfl ?_
  refine ks_getf (T := TX11) (kf := 0) kx_1053 rfl in_X11 cl_X11 (by decide) h0 rfl dX11_input_111 rfl ?_
  refine ks_callV (n := 5) (M' := mX4_addInput) (c_addInput (d := d + 3) (ia := 55) (u := 0) (x := -1) (q := q) hx hT (by omega) (by decide) hT6 h55 kO_zero (by decide) (by decide) (by omega) ho) x0 cl_X4 rfl kx_833 kx_834 kx_835 kx_28 kx_836 (by decide +kernel) rfl (by decide) (Nat.le_of_ble_eq_true rfl) rfl dX11_input_114 rfl (fun z6 T6 y6 => ?_)
  obtain ⟨rfl, w6, X6⟩ := y6
  have n9 : ∀ x, x < 56 → x ∉ dxL (56 + 19 * (dc - 1)) := fun x h hx => by have := dxL_me hx; omega
  have a0 := w6.at h0 (n9 _ (by decide))
  have B6 := hT.up w6 (n9 _ (by decide)) (n9 _ (by decide))
  have D6 := hD.put (by omega) w6 X6
  obtain ⟨len6, g6, -, -, -, a1, -⟩ := id B6
  obtain ⟨usz, uid, uix, usq, uvl, usc, uU, -, -⟩ := dx_len X6
  have u0 := uU.1
  refine ks_goto (tgt := 184) dX11_input_117 (by decide) ?_
  refine ks_aload_n dX11_input_184 rfl rfl ?_
  refine ks_getf (T := TX11) (kf := 0) kx_1053 rfl in_X11 cl_X11 (by decide) a0 rfl dX11_input_185 rfl ?_
  refine ks_callV (n := 0) (M' := mX1_clear) (bf_clear (d := d + 5) B6) a1 cl_X1 rfl kx_842 kx_843 kx_844 kx_2 kx_845 (by decide +kernel) rfl (by decide) (Nat.le_of_ble_eq_true rfl) rfl dX11_input_188 rfl (fun z7 T7 y7 => ?_)
  obtain ⟨rfl, w7, B7⟩ := y7
  have X7 := X6.up w7 (fun x hx => by simp only [List.mem_cons, List.not_mem_nil, or_false] at hx; omega)
  obtain ⟨ysz, yid, yix, ysq, yvl, ysc, yU, -, -⟩ := dx_len X7
  have y0 := yU.1
  refine ks_aload dX11_input_191 rfl rfl ?_
  refine ks_getf (T := TX4) (kf := 0) kx_787 rfl in_X4 cl_X4 (by decide) y0 rfl dX11_input_193 rfl ?_
  refine ks_iret rfl dX11_input_196 ?_
  rw [List.length_append]
  exact ⟨rfl, (w6.mono (fun x hx => List.mem_cons_of_mem _ (List.mem_cons_of_mem _ hx))).trans (w7.mono (fun x hx => by simp only [List.mem_cons, List.not_mem_nil, or_false] at hx ⊢; omega)), B7, D6.up w7 (by decide)⟩
set_option maxRecDepth 100000 in
set_option maxHeartbeats 800000 in
theorem c_jd_inputD {l : Launch} {G : ks_G} {d : Nat} {S : ks_S} {dc dp : Nat} {dt : Int64} {rs : Int32} (h0 : S.2.2 0 = some (jdO dc dp dt rs)) {T : List Nat} (hT : bfS S 1 2 1600 (some T)) {n best : Nat} {cc : Int32} {tk : Int64} {B : Nat → Bk} (hX : chX S n best cc tk B) {Ds : Nat → dTx} (hD : dfS S Ds) (hdc : 0 < dc ∧ dc ≤ 12) {q : Int64} {ix : Int32} (hq : unL q = false) (hT6 : T.length ≤ 600) (ho : (Ds (dc - 1)).2.2.1.length < 6) {t : Nat} (ht : t < dc) {ow : Option (List Nat)} {gr : Nat → Nat} (hw : bfS S 5 6 8000 ow) (hh : hsO S) (hK : ks_stOK S) (h54 : S.2.2 54 = some (kB 32 gr)) (kgr : kO gr) : ks_P l G yX11_input mX11_input (d + 6) [.ref 0, .int (-2), .int (nI t), .int ix, .long q] S (fun z S' => z = some (.int (nI ((Ds (dc - 1)).2.2.1.length + 1))) ∧ ks_up S S' (1 :: 2 :: 5 :: 6 :: 9 :: 8 :: 10 :: 11 :: 12 :: 54 :: dxL (56 + 19 * (dc - 1))) ∧ bfS S' 1 2 1600 (some []) ∧ dfS S' (va_up Ds (dc - 1) ((Ds (dc - 1)).1, (Ds (dc - 1)).2.1, (Ds (dc - 1)).2.2.1 ++ [(bytL (txI (Ds t)) 0 32, ix, T, q)], (Ds (dc - 1)).2.2.2)) ∧ hsO S' ∧ (∃ ow, bfS S' 5 6 8000 ow) ∧ ∃ g, kO g ∧ S'.2.2 54 = some (kB 32 g)) := by
  have h0j := h0
  have h0 : S.2.2 0 = some (.inr (14, [.ref 1, .ref 3, .ref 5, .ref 7, .ref 14, .ref 20, .ref 27, .ref 41, .ref 52, .ref 53, .ref 54, .ref 55, .int (nI dc), .int (nI dp), .long dt, .int rs])) := h0
  obtain ⟨len, g, kg, hl16, e2, e1, ⟨hl, hg⟩⟩ := id hT
  obtain ⟨hO, ⟨bf, h42, hbf⟩, hB, hn60⟩ := id hX
  have h52 := hD.1
  have hx := hD.2 (dc - 1) (by omega)
  obtain ⟨xsz, xid, xix, xsq, xvl, xsc, xU, xI, xO⟩ := dx_len hx
  have xB := xU.2.2.2.2.2.2.2.2.2.2.2.2.2.2
  have xk := xU.2.2.2.2.2.2.2.2.2.2.1
  have xm := xU.2.2.2.2.2.2.2.2.2.2.2.1
  have x0 := xU.1
  have x1 := xU.2.1
  refine ks_of (by decide) rfl rfl (Nat.le_of_ble_eq_true rfl) ?_
  show ks_X l G mX11_input (d + 6) 0 [(0, .ref 0), (1, .int (-2)), (2, .int (nI t)), (3, .int ix), (4, .long q)] [] S _
  refine ks_lload dX11_input_0 rfl rfl ?_
  refine ks_callS (n := 1) (M' := mX11_isNotUnsigned) (c_jd_unsigned (d := d + 5) (v := q)) kx_1259 kx_1260 kx_1 kx_1261 (by decide +kernel) rfl (by decide) (Nat.le_of_ble_eq_true rfl) rfl dX11_input_2 rfl (fun z1 T1 y1 => ?_)
  obtain ⟨rfl, hT1⟩ := y1
  obtain rfl := hT1.symm
  rw [hq]
  refine ks_if_neZ (tgt := 28) dX11_input_5 (by decide) rfl (fun h => absurd h (by decide)) (fun _ => ?_)
  refine ks_iload_n dX11_input_8 rfl rfl ?_
  refine ks_bipush (x := (-2)) dX11_input_9 (by decide) rfl ?_
  refine ks_icmp_lt (tgt := 28) dX11_input_11 (by decide) rfl (fun h => absurd h (by decide)) (fun _ => ?_)
  refine ks_iload_n dX11_input_14 rfl rfl ?_
  refine ks_iconst (x := (-1)) dX11_input_15 (by decide) rfl ?_
  refine ks_icmp_eq (tgt := 36) dX11_input_16 (by decide) rfl (fun h => absurd h (by decide)) (fun _ => ?_)
  refine ks_aload_n dX11_input_19 rfl rfl ?_
  refine ks_iload_n dX11_input_20 rfl rfl ?_
  refine ks_iload_n dX11_input_21 rfl rfl ?_
  refine ks_callV (n := 2) (M' := mX11_hasTransaction) (c_jd_hasD (d := d + 5) h0j hX (by omega) (by omega)) h0 cl_X11 rfl kx_1277 kx_1279 kxp_21 kx_1 kx_1280 (by decide +kernel) rfl (by decide) (Nat.le_of_ble_eq_true rfl) rfl dX11_input_22 rfl (fun z2 T2 y2 => ?_)
  obtain ⟨rfl, hT2⟩ := y2
  obtain rfl := hT2.symm
  rw [decide_eq_true ht]
  refine ks_if_neZ (tgt := 36) dX11_input_25 (by decide) rfl (fun _ => ?_) (fun h => absurd h (by decide))
  refine ks_aload_n dX11_input_36 rfl rfl ?_
  refine ks_getf (T := TX11) (kf := 12) kx_1065 rfl in_X11 cl_X11 (by decide) h0 rfl dX11_input_37 rfl ?_
  refine ks_if_neN (tgt := 51) (by omega) dX11_input_40 (by decide) rfl (fun h5 => ?_) (fun h5 => absurd h5 (by omega))
  refine ks_aload_n dX11_input_51 rfl rfl ?_
  refine ks_getf (T := TX11) (kf := 8) kx_1061 rfl in_X11 cl_X11 (by decide) h0 rfl dX11_input_52 rfl ?_
  refine ks_aload_n dX11_input_55 rfl rfl ?_
  refine ks_getf (T := TX11) (kf := 12) kx_1065 rfl in_X11 cl_X11 (by decide) h0 rfl dX11_input_56 rfl ?_
  refine ks_iconst (x := nI 1) dX11_input_59 (by decide) rfl ?_
  refine ks_subN (by omega) dX11_input_60 rfl ?_
  refine ks_aaldN (i := dc - 1) (b := (56 + 19 * (dc - 1))) (by decide) h52 rfl (by omega) (by decide) (if_pos (by omega)) dX11_input_61 rfl ?_
  refine ks_astore dX11_input_62 (by decide) rfl ?_
  refine ks_sub [(6, _), (0, _), (1, _), (2, _), (3, _), (4, _)] rfl ?_
  refine ks_aload dX11_input_64 rfl rfl ?_
  refine ks_getf (T := TX4) (kf := 0) kx_787 rfl in_X4 cl_X4 (by decide) x0 rfl dX11_input_66 rfl ?_
  refine ks_bipush (x := nI 6) dX11_input_69 (by decide) rfl ?_
  refine ks_icmp_eqN (tgt := 87) (by omega) (by decide) dX11_input_71 (by decide) rfl (fun h6 => absurd h6 (by omega)) (fun h6 => ?_)
  refine ks_aload_n dX11_input_74 rfl rfl ?_
  refine ks_getf (T := TX11) (kf := 0) kx_1053 rfl in_X11 cl_X11 (by decide) h0 rfl dX11_input_75 rfl ?_
  refine ks_getf (T := TX1) (kf := 1) kx_59 rfl in_X1 cl_X1 (by decide) e1 rfl dX11_input_78 rfl ?_
  refine ks_sipush (x := nI 600) dX11_input_81 (by decide) rfl ?_
  refine ks_icmp_leN (tgt := 95) (by omega) (by decide) dX11_input_84 (by decide) rfl (fun h7 => ?_) (fun h7 => absurd h7 (by omega))
  refine ks_iload_n dX11_input_95 rfl rfl ?_
  refine ks_iconst (x := (-1)) dX11_input_96 (by decide) rfl ?_
  refine ks_icmp_ne (tgt := 120) dX11_input_97 (by decide) rfl (fun _ => ?_) (fun h => absurd h (by decide))
  refine ks_iload_n dX11_input_120 rfl rfl ?_
  refine ks_bipush (x := (-2)) dX11_input_121 (by decide) rfl ?_
  refine ks_icmp_ne (tgt := 156) dX11_input_123 (by decide) rfl (fun h => absurd h (by decide)) (fun _ => ?_)
  refine ks_aload_n dX11_input_126 rfl rfl ?_
  refine ks_iload_n dX11_input_127 rfl rfl ?_
  refine ks_aload_n dX11_input_128 rfl rfl ?_
  refine ks_getf (T := TX11) (kf := 10) kx_1063 rfl in_X11 cl_X11 (by decide) h0 rfl dX11_input_129 rfl ?_
  refine ks_iconst (x := nI 0) dX11_input_132 (by decide) rfl ?_
  refine ks_callV (n := 3) (M' := mX11_nameDraft) (c_jd_nameDraft (d := d) (i := t) (y := 54) (q := 0) h0j hD (by omega) hw hh hK h54 kgr (by decide) (by decide) (Or.inr rfl)) h0 cl_X11 rfl kx_858 kx_860 kxp_7 kx_1 kx_861 (by decide +kernel) rfl (by decide) (Nat.le_of_ble_eq_true rfl) rfl dX11_input_133 rfl (fun z5 T5 y5 => ?_)
  obtain ⟨rfl, w5, hh5, W5, e54⟩ := y5
  have k54 : kO (ks_pt (txI (Ds t)) gr 0 32) := kO_pt (kO_twice _ _) kgr _ _
  have h05 := w5.at h0 (by decide)
  have hT5 := hT.up w5 (by decide) (by decide)
  have hD5 := hD.up w5 (by decide)
  have hx5 := hD5.2 (dc - 1) (by omega)
  obtain ⟨zsz, zid, zix, zsq, zvl, zsc, zU, -, -⟩ := dx_len hx5
  have z0 := zU.1
  obtain ⟨len5, g5, -, -, -, a15, -⟩ := id hT5
  have eb : bytL (ks_pt (txI (Ds t)) gr 0 32) 0 32 = bytL (txI (Ds t)) 0 32 := bytL_c (fun k hk => by rw [ks_pt_in _ _ _ _ hk, Nat.zero_add])
  refine ks_aload dX11_input_136 rfl rfl ?_
  refine ks_aload_n dX11_input_138 rfl rfl ?_
  refine ks_getf (T := TX11) (kf := 10) kx_1063 rfl in_X11 cl_X11 (by decide) h05 rfl dX11_input_139 rfl ?_
  refine ks_iconst (x := nI 0) dX11_input_142 (by decide) rfl ?_
  refine ks_iload_n dX11_input_143 rfl rfl ?_
  refine ks_lload dX11_input_144 rfl rfl ?_
  refine ks_aload_n dX11_input_146 rfl rfl ?_
  refine ks_getf (T := TX11) (kf := 0) kx_1053 rfl in_X11 cl_X11 (by decide) h05 rfl dX11_input_147 rfl ?_
  refine ks_callV (n := 5) (M' := mX4_addInput) (c_addInput (d := d + 3) (ia := 54) (u := 0) (x := ix) (q := q) hx5 hT5 (by omega) (by decide) hT6 e54 k54 (by decide) (by decide) (by omega) ho) z0 cl_X4 rfl kx_833 kx_834 kx_835 kx_28 kx_836 (by decide +kernel) rfl (by decide) (Nat.le_of_ble_eq_true rfl) rfl dX11_input_150 rfl (fun z6 T6 y6 => ?_)
  obtain ⟨rfl, w6, X6⟩ := y6
  have n9 : ∀ x, x < 56 → x ∉ dxL (56 + 19 * (dc - 1)) := fun x h hx => by have := dxL_me hx; omega
  have a0 := w6.at h05 (n9 _ (by decide))
  have B6 := hT5.up w6 (n9 _ (by decide)) (n9 _ (by decide))
  rw [eb] at X6
  have D6 := hD5.put (by omega) w6 X6
  obtain ⟨len6, g6, -, -, -, a1, -⟩ := id B6
  obtain ⟨usz, uid, uix, usq, uvl, usc, uU, -, -⟩ := dx_len X6
  have u0 := uU.1
  refine ks_goto (tgt := 184) dX11_input_153 (by decide) ?_
  refine ks_aload_n dX11_input_184 rfl rfl ?_
  refine ks_getf (T := TX11) (kf := 0) kx_1053 rfl in_X11 cl_X11 (by decide) a0 rfl dX11_input_185 rfl ?_
  refine ks_callV (n := 0) (M' := mX1_clear) (bf_clear (d := d + 5) B6) a1 cl_X1 rfl kx_842 kx_843 kx_844 kx_2 kx_845 (by decide +kernel) rfl (by decide) (Nat.le_of_ble_eq_true rfl) rfl dX11_input_188 rfl (fun z7 T7 y7 => ?_)
  obtain ⟨rfl, w7, B7⟩ := y7
  have X7 := X6.up w7 (fun x hx => by simp only [List.mem_cons, List.not_mem_nil, or_false] at hx; omega)
  obtain ⟨ysz, yid, yix, ysq, yvl, ysc, yU, -, -⟩ := dx_len X7
  have y0 := yU.1
  refine ks_aload dX11_input_191 rfl rfl ?_
  refine ks_getf (T := TX4) (kf := 0) kx_787 rfl in_X4 cl_X4 (by decide) y0 rfl dX11_input_193 rfl ?_
  refine ks_iret rfl dX11_input_196 ?_
  rw [List.length_append]
  refine ⟨rfl, ((w5.mono ?_).trans (w6.mono ?_)).trans (w7.mono ?_), B7, D6.up w7 (by decide), (hh5.up w6 ?_).up w7 (by decide), ⟨_, (W5.up w6 (n9 _ (by decide)) (n9 _ (by decide))).up w7 (by decide) (by decide)⟩, ⟨_, k54, w7.at (w6.at e54 (n9 _ (by decide))) (by decide)⟩⟩
  · intro x hx; simp only [List.mem_cons, List.not_mem_nil, or_false] at hx ⊢; omega
  · intro x hx; simp only [List.mem_cons]; simp only [hx, or_true]
  · intro x hx; simp only [List.mem_cons, List.not_mem_nil, or_false] at hx ⊢; omega
  · intro x hx; have := dxL_me hx; omega
set_option maxRecDepth 100000 in
set_option maxHeartbeats 800000 in
theorem c_jd_inputB {l : Launch} {G : ks_G} {d : Nat} {S : ks_S} {dc dp : Nat} {dt : Int64} {rs : Int32} (h0 : S.2.2 0 = some (jdO dc dp dt rs)) {T : List Nat} (hT : bfS S 1 2 1600 (some T)) {n best : Nat} {cc : Int32} {tk : Int64} {B : Nat → Bk} (hX : chX S n best cc tk B) {Ds : Nat → dTx} (hD : dfS S Ds) (hdc : 0 < dc ∧ dc ≤ 12) {q : Int64} {ix : Int32} (hq : unL q = false) (hT6 : T.length ≤ 600) (ho : (Ds (dc - 1)).2.2.1.length < 6) {x t : Nat} (hx9 : x < n) (ht : t < mg (bkM (B x)) 80) (hbx : 284 ≤ bkN (B x)) : ks_P l G yX11_input mX11_input (d + 6) [.ref 0, .int (nI x), .int (nI t), .int ix, .long q] S (fun z S' => z = some (.int (nI ((Ds (dc - 1)).2.2.1.length + 1))) ∧ ks_up S S' (1 :: 2 :: dxL (56 + 19 * (dc - 1))) ∧ bfS S' 1 2 1600 (some []) ∧ dfS S' (va_up Ds (dc - 1) ((Ds (dc - 1)).1, (Ds (dc - 1)).2.1, (Ds (dc - 1)).2.2.1 ++ [(bytL (idB (bkM (B x)) t) 0 32, ix, T, q)], (Ds (dc - 1)).2.2.2))) := by
  have h0j := h0
  have h0 : S.2.2 0 = some (.inr (14, [.ref 1, .ref 3, .ref 5, .ref 7, .ref 14, .ref 20, .ref 27, .ref 41, .ref 52, .ref 53, .ref 54, .ref 55, .int (nI dc), .int (nI dp), .long dt, .int rs])) := h0
  obtain ⟨len, g, kg, hl16, e2, e1, ⟨hl, hg⟩⟩ := id hT
  obtain ⟨hO, ⟨bf, h42, hbf⟩, hB, hn60⟩ := id hX
  have h52 := hD.1
  have hx := hD.2 (dc - 1) (by omega)
  obtain ⟨xsz, xid, xix, xsq, xvl, xsc, xU, xI, xO⟩ := dx_len hx
  have xB := xU.2.2.2.2.2.2.2.2.2.2.2.2.2.2
  have xk := xU.2.2.2.2.2.2.2.2.2.2.1
  have xm := xU.2.2.2.2.2.2.2.2.2.2.2.1
  have x0 := xU.1
  have x1 := xU.2.1
  obtain ⟨g1y, f2y, g3y, g4y, oy, ley, egy, bly, sty, idy, hsy, coy⟩ := hB x (by omega)
  have b9 := blk_b bly
  refine ks_of (by decide) rfl rfl (Nat.le_of_ble_eq_true rfl) ?_
  show ks_X l G mX11_input (d + 6) 0 [(0, .ref 0), (1, .int (nI x)), (2, .int (nI t)), (3, .int ix), (4, .long q)] [] S _
  refine ks_lload dX11_input_0 rfl rfl ?_
  refine ks_callS (n := 1) (M' := mX11_isNotUnsigned) (c_jd_unsigned (d := d + 5) (v := q)) kx_1259 kx_1260 kx_1 kx_1261 (by decide +kernel) rfl (by decide) (Nat.le_of_ble_eq_true rfl) rfl dX11_input_2 rfl (fun z1 T1 y1 => ?_)
  obtain ⟨rfl, hT1⟩ := y1
  obtain rfl := hT1.symm
  rw [hq]
  refine ks_if_neZ (tgt := 28) dX11_input_5 (by decide) rfl (fun h => absurd h (by decide)) (fun _ => ?_)
  refine ks_iload_n dX11_input_8 rfl rfl ?_
  refine ks_bipush (x := (-2)) dX11_input_9 (by decide) rfl ?_
  refine ks_icmp_lt (tgt := 28) dX11_input_11 (by decide) rfl (fun h => absurd h (Int32.not_lt.mpr (Int32.le_trans (by decide : (-2 : Int32) ≤ 0) (nI_nn (by omega))))) (fun _ => ?_)
  refine ks_iload_n dX11_input_14 rfl rfl ?_
  refine ks_iconst (x := (-1)) dX11_input_15 (by decide) rfl ?_
  refine ks_icmp_eq (tgt := 36) dX11_input_16 (by decide) rfl (fun h => absurd h (fun h => by have h9 := nI_nn (a := x) (by omega); rw [h] at h9; exact absurd h9 (by decide))) (fun _ => ?_)
  refine ks_aload_n dX11_input_19 rfl rfl ?_
  refine ks_iload_n dX11_input_20 rfl rfl ?_
  refine ks_iload_n dX11_input_21 rfl rfl ?_
  refine ks_callV (n := 2) (M' := mX11_hasTransaction) (c_jd_has (d := d + 5) h0j hX hx9 (by omega)) h0 cl_X11 rfl kx_1277 kx_1279 kxp_21 kx_1 kx_1280 (by decide +kernel) rfl (by decide) (Nat.le_of_ble_eq_true rfl) rfl dX11_input_22 rfl (fun z2 T2 y2 => ?_)
  obtain ⟨rfl, hT2⟩ := y2
  obtain rfl := hT2.symm
  rw [decide_eq_true ht]
  refine ks_if_neZ (tgt := 36) dX11_input_25 (by decide) rfl (fun _ => ?_) (fun h => absurd h (by decide))
  refine ks_aload_n dX11_input_36 rfl rfl ?_
  refine ks_getf (T := TX11) (kf := 12) kx_1065 rfl in_X11 cl_X11 (by decide) h0 rfl dX11_input_37 rfl ?_
  refine ks_if_neN (tgt := 51) (by omega) dX11_input_40 (by decide) rfl (fun h5 => ?_) (fun h5 => absurd h5 (by omega))
  refine ks_aload_n dX11_input_51 rfl rfl ?_
  refine ks_getf (T := TX11) (kf := 8) kx_1061 rfl in_X11 cl_X11 (by decide) h0 rfl dX11_input_52 rfl ?_
  refine ks_aload_n dX11_input_55 rfl rfl ?_
  refine ks_getf (T := TX11) (kf := 12) kx_1065 rfl in_X11 cl_X11 (by decide) h0 rfl dX11_input_56 rfl ?_
  refine ks_iconst (x := nI 1) dX11_input_59 (by decide) rfl ?_
  refine ks_subN (by omega) dX11_input_60 rfl ?_
  refine ks_aaldN (i := dc - 1) (b := (56 + 19 * (dc - 1))) (by decide) h52 rfl (by omega) (by decide) (if_pos (by omega)) dX11_input_61 rfl ?_
  refine ks_astore dX11_input_62 (by decide) rfl ?_
  refine ks_sub [(6, _), (0, _), (1, _), (2, _), (3, _), (4, _)] rfl ?_
  refine ks_aload dX11_input_64 rfl rfl ?_
  refine ks_getf (T := TX4) (kf := 0) kx_787 rfl in_X4 cl_X4 (by decide) x0 rfl dX11_input_66 rfl ?_
  refine ks_bipush (x := nI 6) dX11_input_69 (by decide) rfl ?_
  refine ks_icmp_eqN (tgt := 87) (by omega) (by decide) dX11_input_71 (by decide) rfl (fun h6 => absurd h6 (by omega)) (fun h6 => ?_)
  refine ks_aload_n dX11_input_74 rfl rfl ?_
  refine ks_getf (T := TX11) (kf := 0) kx_1053 rfl in_X11 cl_X11 (by decide) h0 rfl dX11_input_75 rfl ?_
  refine ks_getf (T := TX1) (kf := 1) kx_59 rfl in_X1 cl_X1 (by decide) e1 rfl dX11_input_78 rfl ?_
  refine ks_sipush (x := nI 600) dX11_input_81 (by decide) rfl ?_
  refine ks_icmp_leN (tgt := 95) (by omega) (by decide) dX11_input_84 (by decide) rfl (fun h7 => ?_) (fun h7 => absurd h7 (by omega))
  refine ks_iload_n dX11_input_95 rfl rfl ?_
  refine ks_iconst (x := (-1)) dX11_input_96 (by decide) rfl ?_
  refine ks_icmp_ne (tgt := 120) dX11_input_97 (by decide) rfl (fun _ => ?_) (fun h => absurd h (fun h => by have h9 := nI_nn (a := x) (by omega); rw [h] at h9; exact absurd h9 (by decide)))
  refine ks_iload_n dX11_input_120 rfl rfl ?_
  refine ks_bipush (x := (-2)) dX11_input_121 (by decide) rfl ?_
  refine ks_icmp_ne (tgt := 156) dX11_input_123 (by decide) rfl (fun _ => ?_) (fun h => absurd h (fun h => by have h9 := nI_nn (a := x) (by omega); rw [h] at h9; exact absurd h9 (by decide)))
  refine ks_aload dX11_input_156 rfl rfl ?_
  refine ks_aload_n dX11_input_158 rfl rfl ?_
  refine ks_getf (T := TX11) (kf := 7) kx_1060 rfl in_X11 cl_X11 (by decide) h0 rfl dX11_input_159 rfl ?_
  refine ks_getf (T := TX2) (kf := 0) kx_730 rfl in_X2 cl_X2 (by decide) hO rfl dX11_input_162 rfl ?_
  refine ks_iload_n dX11_input_165 rfl rfl ?_
  refine ks_aaldN (i := x) (b := (bkN (B x))) (by decide) h42 rfl (by omega) (by decide) (hbf x (by omega)) dX11_input_166 rfl ?_
  refine ks_getf (T := TX0) (kf := 2) kx_940 rfl in_X0 cl_X0 (by decide) oy.1 rfl dX11_input_167 rfl ?_
  refine ks_bipush (x := nI 32) dX11_input_170 (by decide) rfl ?_
  refine ks_iload_n dX11_input_172 rfl rfl ?_
  refine ks_mulN dX11_input_173 rfl ?_
  refine ks_iload_n dX11_input_174 rfl rfl ?_
  refine ks_lload dX11_input_175 rfl rfl ?_
  refine ks_aload_n dX11_input_177 rfl rfl ?_
  refine ks_getf (T := TX11) (kf := 0) kx_1053 rfl in_X11 cl_X11 (by decide) h0 rfl dX11_input_178 rfl ?_
  refine ks_callV (n := 5) (M' := mX4_addInput) (c_addInput (d := d + 3) (ia := bkN (B x) + 3) (u := 32 * t) (x := ix) (q := q) hx hT (by omega) (by decide) hT6 oy.2.2.2.1 oy.2.2.2.2.2.2.1 (by omega) (by decide) (by omega) ho) x0 cl_X4 rfl kx_833 kx_834 kx_835 kx_28 kx_836 (by decide +kernel) rfl (by decide) (Nat.le_of_ble_eq_true rfl) rfl dX11_input_181 rfl (fun z6 T6 y6 => ?_)
  obtain ⟨rfl, w6, X6⟩ := y6
  have n9 : ∀ x, x < 56 → x ∉ dxL (56 + 19 * (dc - 1)) := fun x h hx => by have := dxL_me hx; omega
  have a0 := w6.at h0 (n9 _ (by decide))
  have B6 := hT.up w6 (n9 _ (by decide)) (n9 _ (by decide))
  rw [bytL_c (f := g3y) (g := idB (bkM (B x)) t) (i := 32 * t) (j := 0) (fun k hk => by rw [Nat.zero_add]; exact idy t ht k hk)] at X6
  have D6 := hD.put (by omega) w6 X6
  obtain ⟨len6, g6, -, -, -, a1, -⟩ := id B6
  obtain ⟨usz, uid, uix, usq, uvl, usc, uU, -, -⟩ := dx_len X6
  have u0 := uU.1
  refine ks_aload_n dX11_input_184 rfl rfl ?_
  refine ks_getf (T := TX11) (kf := 0) kx_1053 rfl in_X11 cl_X11 (by decide) a0 rfl dX11_input_185 rfl ?_
  refine ks_callV (n := 0) (M' := mX1_clear) (bf_clear (d := d + 5) B6) a1 cl_X1 rfl kx_842 kx_843 kx_844 kx_2 kx_845 (by decide +kernel) rfl (by decide) (Nat.le_of_ble_eq_true rfl) rfl dX11_input_188 rfl (fun z7 T7 y7 => ?_)
  obtain ⟨rfl, w7, B7⟩ := y7
  have X7 := X6.up w7 (fun x hx => by simp only [List.mem_cons, List.not_mem_nil, or_false] at hx; omega)
  obtain ⟨ysz, yid, yix, ysq, yvl, ysc, yU, -, -⟩ := dx_len X7
  have y0 := yU.1
  refine ks_aload dX11_input_191 rfl rfl ?_
  refine ks_getf (T := TX4) (kf := 0) kx_787 rfl in_X4 cl_X4 (by decide) y0 rfl dX11_input_193 rfl ?_
  refine ks_iret rfl dX11_input_196 ?_
  rw [List.length_append]
  exact ⟨rfl, (w6.mono (fun x hx => List.mem_cons_of_mem _ (List.mem_cons_of_mem _ hx))).trans (w7.mono (fun x hx => by simp only [List.mem_cons, List.not_mem_nil, or_false] at hx ⊢; omega)), B7, D6.up w7 (by decide)⟩
