/-! THE JUDGE: sign -/
/-- what is signed of a draft -/
def sgD (D : dTx) (i ty : Nat) (T : List Nat) : List Nat := sgH (mg (txL D)) (txL D).length 0 (dPos D).1 (dPos D).2.1 (dPos D).2.2.1 (dPos D).2.2.2.1 (dPos D).2.2.2.2 i ty (cln_ [] T)
theorem wsL_len (r s ty : Nat) : (wsL r s ty).length ≤ 73 := by
  have := derB_len r
  have := derB_len s
  unfold wsL
  simp only [List.length_append, List.length_cons, List.length_nil]
  omega
theorem psz73 {n : Nat} (h : n ≤ 73) : psz n ≤ 74 := by unfold psz; rw [if_pos (by omega)]; omega
abbrev LSg (b : Nat) : List Nat := [1, 2, 5, 6, 8, 9, 10, 11, 16, 18, 19, 20, 21, 22, 23, 24, 25, 26, 28, 37, 38, 39, 40] ++ dxL b
set_option maxRecDepth 100000 in
set_option maxHeartbeats 1600000 in
theorem c_jd_sign {l : Launch} {G : ks_G} {d : Nat} {S : ks_S} {dc dp : Nat} {dt : Int64} {rs : Int32} (h0 : S.2.2 0 = some (jdO dc dp dt rs)) {T : List Nat} (hT : bfS S 1 2 1600 (some T)) {Ds : Nat → dTx} (hD : dfS S Ds) (hdc : 0 < dc ∧ dc ≤ 12) {i n ty : Nat} {x : dIn} {ow : Option (List Nat)} (hxi : (Ds (dc - 1)).2.2.1[i]? = some x) (hx5 : x.2.2.1.length ≤ 500) (hn1 : 1 ≤ n) (hn : n < 2 ^ 31) (hty : ty < 256) (hw : bfS S 5 6 8000 ow) (hR : tvR S) (hZ : mcZ S) (hK : ks_stOK S) (hS64 : 64 ≤ S.1) : ks_P l G yX11_sign mX11_sign (d + 9) [.ref 0, .int (nI i), .int (nI n), .int (nI ty)] S (fun z S' => ∃ gh x0 s, bytL gh 0 32 = sgD (Ds (dc - 1)) i ty T ∧ wsN n gh x0 s ∧ z = some (.int (nI (x.2.2.1.length + psz (wsL (x0 % nN) s ty).length))) ∧ ks_up S S' (LSg (56 + 19 * (dc - 1))) ∧ bfS S' 1 2 1600 (some []) ∧ dfS S' (va_up Ds (dc - 1) ((Ds (dc - 1)).1, (Ds (dc - 1)).2.1, dPush (Ds (dc - 1)).2.2.1 i (pushL (wsL (x0 % nN) s ty)), (Ds (dc - 1)).2.2.2)) ∧ mcZ S' ∧ (∃ ow, bfS S' 5 6 8000 ow) ∧ tvR S') := by
  have h0 : S.2.2 0 = some (.inr (14, [.ref 1, .ref 3, .ref 5, .ref 7, .ref 14, .ref 20, .ref 27, .ref 41, .ref 52, .ref 53, .ref 54, .ref 55, .int (nI dc), .int (nI dp), .long dt, .int rs])) := h0
  obtain ⟨len, g, kg, hl16, e2, e1, ⟨hl, hg⟩⟩ := id hT
  have h52 := hD.1
  have hxd := hD.2 (dc - 1) (by omega)
  obtain ⟨xsz, xid, xix, xsq, xvl, xsc, xU, xI, xO⟩ := dx_len hxd
  have xB := xU.2.2.2.2.2.2.2.2.2.2.2.2.2.2
  have xk := xU.2.2.2.2.2.2.2.2.2.2.1
  have xm := xU.2.2.2.2.2.2.2.2.2.2.2.1
  have x0 := xU.1
  have x1 := xU.2.1
  have hik : i < (Ds (dc - 1)).2.2.1.length := by
    rcases Nat.lt_or_ge i (Ds (dc - 1)).2.2.1.length with h | h
    · exact h
    · simp [h] at hxi
  have hszi := dx_sz xI hxi
  obtain ⟨ttx, ttl, tt8⟩ := tx_draft (dx_dOK hxd)
  obtain ⟨⟨cu, hh, ⟨g28, k28, h28⟩, ⟨o39, hb39⟩, o37, hb37⟩, ⟨xs, ys, us, hst⟩, ⟨dn, h36⟩, vw, ji, vc, j1, j2, j3, j4, j5, j6, i1, i2, i3, i4, h27⟩ := id hZ
  obtain ⟨lw, gw, -, -, -, w5, -⟩ := id hw
  refine ks_of (by decide) rfl rfl (Nat.le_of_ble_eq_true rfl) ?_
  show ks_X l G mX11_sign (d + 9) 0 [(0, .ref 0), (1, .int (nI i)), (2, .int (nI n)), (3, .int (nI ty))] [] S _
  refine ks_aload_n dX11_sign_0 rfl rfl ?_
  refine ks_getf (T := TX11) (kf := 12) kx_1065 rfl in_X11 cl_X11 (by decide) h0 rfl dX11_sign_1 rfl ?_
  refine ks_if_neN (tgt := 15) (by omega) dX11_sign_4 (by decide) rfl (fun h1 => ?_) (fun h1 => absurd h1 (by omega))
  refine ks_aload_n dX11_sign_15 rfl rfl ?_
  refine ks_getf (T := TX11) (kf := 8) kx_1061 rfl in_X11 cl_X11 (by decide) h0 rfl dX11_sign_16 rfl ?_
  refine ks_aload_n dX11_sign_19 rfl rfl ?_
  refine ks_getf (T := TX11) (kf := 12) kx_1065 rfl in_X11 cl_X11 (by decide) h0 rfl dX11_sign_20 rfl ?_
  refine ks_iconst (x := nI 1) dX11_sign_23 (by decide) rfl ?_
  refine ks_subN (by omega) dX11_sign_24 rfl ?_
  refine ks_aaldN (i := dc - 1) (b := (56 + 19 * (dc - 1))) (by decide) h52 rfl (by omega) (by decide) (if_pos (by omega)) dX11_sign_25 rfl ?_
  refine ks_astore dX11_sign_26 (by decide) rfl ?_
  refine ks_sub [(4, _), (0, _), (1, _), (2, _), (3, _)] rfl ?_
  refine ks_iload_n dX11_sign_28 rfl rfl ?_
  refine ks_if_ltN (tgt := 57) (by omega) dX11_sign_29 (by decide) rfl ?_
  refine ks_iload_n dX11_sign_32 rfl rfl ?_
  refine ks_aload dX11_sign_33 rfl rfl ?_
  refine ks_getf (T := TX4) (kf := 0) kx_787 rfl in_X4 cl_X4 (by decide) x0 rfl dX11_sign_35 rfl ?_
  refine ks_icmp_geN (tgt := 57) (by omega) (by omega) dX11_sign_38 (by decide) rfl (fun h2 => absurd h2 (by omega)) (fun h2 => ?_)
  refine ks_iload_n dX11_sign_41 rfl rfl ?_
  refine ks_iconst (x := nI 1) dX11_sign_42 (by decide) rfl ?_
  refine ks_icmp_ltN (tgt := 57) (by omega) (by decide) dX11_sign_43 (by decide) rfl (fun h3 => absurd h3 (by omega)) (fun h3 => ?_)
  refine ks_iload_n dX11_sign_46 rfl rfl ?_
  refine ks_if_ltN (tgt := 57) (by omega) dX11_sign_47 (by decide) rfl ?_
  refine ks_iload_n dX11_sign_50 rfl rfl ?_
  refine ks_sipush (x := nI 255) dX11_sign_51 (by decide) rfl ?_
  refine ks_icmp_leN (tgt := 65) (by omega) (by decide) dX11_sign_54 (by decide) rfl (fun h4 => ?_) (fun h4 => absurd h4 (by omega))
  refine ks_aload dX11_sign_65 rfl rfl ?_
  refine ks_getf (T := TX4) (kf := 2) kx_791 rfl in_X4 cl_X4 (by decide) x0 rfl dX11_sign_67 rfl ?_
  refine ks_iload_n dX11_sign_70 rfl rfl ?_
  refine ks_ialdN (i := i) x1 rfl (by omega) (by decide) dX11_sign_71 rfl ?_
  refine ks_sipush (x := nI 500) dX11_sign_72 (by decide) rfl ?_
  refine ks_icmp_leN (tgt := 86) (by omega) (by decide) dX11_sign_75 (by decide) rfl (fun h5 => ?_) (fun h5 => absurd h5 (by omega))
  refine ks_aload_n dX11_sign_86 rfl rfl ?_
  refine ks_getf (T := TX11) (kf := 2) kx_1055 rfl in_X11 cl_X11 (by decide) h0 rfl dX11_sign_87 rfl ?_
  refine ks_callV (n := 0) (M' := mX1_clear) (bf_clear (d := d + 8) hw) w5 cl_X1 rfl kx_842 kx_843 kx_844 kx_2 kx_845 (by decide +kernel) rfl (by decide) (Nat.le_of_ble_eq_true rfl) rfl dX11_sign_90 rfl (fun z1 T1 y1 => ?_)
  obtain ⟨rfl, u1, B1⟩ := y1
  have a01 := u1.at h0 (by decide)
  have X1 := hxd.up u1 (fun x hx => by simp only [List.mem_cons, List.not_mem_nil, or_false] at hx; omega)
  obtain ⟨ysz, yid, yix, ysq, yvl, ysc, yU, -, -⟩ := dx_len X1
  have y0 := yU.1
  obtain ⟨lw1, gw1, -, -, -, w51, -⟩ := id B1
  refine ks_aload dX11_sign_93 rfl rfl ?_
  refine ks_aload_n dX11_sign_95 rfl rfl ?_
  refine ks_getf (T := TX11) (kf := 2) kx_1055 rfl in_X11 cl_X11 (by decide) a01 rfl dX11_sign_96 rfl ?_
  refine ks_callV (n := 1) (M' := mX4_write) (c_write (d := d + 6) X1 (by omega) (by decide) B1 (by rw [List.length_nil, Nat.zero_add]; exact tt8)) y0 cl_X4 rfl kx_862 kx_863 kx_864 kx_28 kx_865 (by decide +kernel) rfl (by decide) (Nat.le_of_ble_eq_true rfl) rfl dX11_sign_99 rfl (fun z2 T2 y2 => ?_)
  obtain ⟨rfl, u2, B2⟩ := y2
  rw [List.nil_append] at B2
  obtain ⟨lw2, gw2, kgw2, hlw2, w62, w52, ⟨ql2, qg2⟩⟩ := id B2
  have u02 : ks_up S T2 [6, 5] := u1.trans u2
  have a02 := u02.at h0 (by decide)
  obtain ⟨vv, v1, v2, v9, vx, fA, fS, fZ, hA9, hS9, hZ9, hv20, -⟩ := id hR
  have hv20b := u02.at hv20 (by decide)
  refine ks_aload_n dX11_sign_102 rfl rfl ?_
  refine ks_getf (T := TX11) (kf := 5) kx_1058 rfl in_X11 cl_X11 (by decide) a02 rfl dX11_sign_103 rfl ?_
  refine ks_aload_n dX11_sign_106 rfl rfl ?_
  refine ks_getf (T := TX11) (kf := 2) kx_1055 rfl in_X11 cl_X11 (by decide) a02 rfl dX11_sign_107 rfl ?_
  refine ks_getf (T := TX1) (kf := 0) kx_54 rfl in_X1 cl_X1 (by decide) w52 rfl dX11_sign_110 rfl ?_
  refine ks_iconst (x := nI 0) dX11_sign_113 (by decide) rfl ?_
  refine ks_aload_n dX11_sign_114 rfl rfl ?_
  refine ks_getf (T := TX11) (kf := 2) kx_1055 rfl in_X11 cl_X11 (by decide) a02 rfl dX11_sign_115 rfl ?_
  refine ks_getf (T := TX1) (kf := 1) kx_59 rfl in_X1 cl_X1 (by decide) w52 rfl dX11_sign_118 rfl ?_
  refine ks_callV (n := 3) (M' := mX10_read) (c_read (d := d + 6) (b := 0) w62 kgw2 hlw2 (by decide) (Nat.zero_le _) (by decide) (tvR_ex hR u02.ex (by decide) hS64)) hv20b cl_X10 rfl kx_1325 kx_990 kx_991 kx_23 kx_992 (by decide +kernel) rfl (by decide) (Nat.le_of_ble_eq_true rfl) rfl dX11_sign_121 rfl (fun z3 T3 y3 => ?_)
  have etx : tx_ gw2 0 lw2 = some (dPos (Ds (dc - 1))) := by rw [← ql2, tx_congr (g := mg (txL (Ds (dc - 1)))) (fun j hj => qg2 j (by rw [← ql2]; exact hj))]; exact ttx
  have V3 : ∃ v, z3 = some (.int v) ∧ ks_up T2 T3 [20, 21, 22, 23, 24, 25, 26] ∧ tv_ok T3 6 gw2 lw2 0 (dPos (Ds (dc - 1))).1 (dPos (Ds (dc - 1))).2.1 (dPos (Ds (dc - 1))).2.2.1 (dPos (Ds (dc - 1))).2.2.2.1 (dPos (Ds (dc - 1))).2.2.2.2 := by
    obtain ⟨q1, q2 | ⟨k, p, m, u, e, q3, q4, q5⟩⟩ := y3
    · rw [etx] at q2; cases q2.1
    · rw [etx] at q3
      have q6 := Option.some.inj q3
      exact ⟨_, q4, q1, by rw [q6]; exact q5⟩
  obtain ⟨v3, rfl, u3, V3⟩ := V3
  have u03 : ks_up S T3 [6, 5, 20, 21, 22, 23, 24, 25, 26] := (u02.mono (by decide)).trans (u3.mono (by decide))
  have a03 := u03.at h0 (by decide)
  have h273 := u03.at h27 (by decide)
  have e13 := u03.at e1 (by decide)
  have e23 := u03.at e2 (by decide)
  refine ks_pop dX11_sign_124 rfl rfl ?_
  refine ks_aload_n dX11_sign_125 rfl rfl ?_
  refine ks_getf (T := TX11) (kf := 6) kx_1059 rfl in_X11 cl_X11 (by decide) a03 rfl dX11_sign_126 rfl ?_
  refine ks_aload_n dX11_sign_129 rfl rfl ?_
  refine ks_getf (T := TX11) (kf := 0) kx_1053 rfl in_X11 cl_X11 (by decide) a03 rfl dX11_sign_130 rfl ?_
  refine ks_getf (T := TX1) (kf := 0) kx_54 rfl in_X1 cl_X1 (by decide) e13 rfl dX11_sign_133 rfl ?_
  refine ks_iconst (x := nI 0) dX11_sign_136 (by decide) rfl ?_
  refine ks_aload_n dX11_sign_137 rfl rfl ?_
  refine ks_getf (T := TX11) (kf := 0) kx_1053 rfl in_X11 cl_X11 (by decide) a03 rfl dX11_sign_138 rfl ?_
  refine ks_getf (T := TX1) (kf := 1) kx_59 rfl in_X1 cl_X1 (by decide) e13 rfl dX11_sign_141 rfl ?_
  refine ks_iconst (x := nI 0) dX11_sign_144 (by decide) rfl ?_
  refine ks_callV (n := 4) (M' := mX7_cleanCode) (c_mc_cleanCode0 (d := d + 6) (s := 0) (e := len) h273 (hst.up u03 (by decide)) e23 kg (by decide) (Nat.zero_le _) hl16 (by omega) (by decide) (hb37.up u03 (by decide) (by decide))) h273 cl_X7 rfl kx_1326 kx_1327 kx_1328 kx_24 kx_1329 (by decide +kernel) rfl (by decide) (Nat.le_of_ble_eq_true rfl) rfl dX11_sign_145 rfl (fun z4 T4 y4 => ?_)
  obtain ⟨rfl, u4, B4⟩ := y4
  have ebT : bytL g 0 (len - 0) = T := by
    rw [Nat.sub_zero]
    refine Eq.trans ?_ (bytL_getD T)
    rw [hl]
    exact bytL_c (fun k hk => by rw [Nat.zero_add]; exact hg k hk)
  rw [ebT] at B4
  have u04 : ks_up S T4 [6, 5, 20, 21, 22, 23, 24, 25, 26, 38, 37] := (u03.mono (by decide)).trans (u4.mono (by decide))
  have a04 := u04.at h0 (by decide)
  have h274 := u04.at h27 (by decide)
  have V4 := V3.up u4 (by decide)
  have w64 := u4.at (u3.at w62 (by decide)) (by decide)
  have K4 := u04.st hK (by unfold ks_B; decide)
  refine ks_aload_n dX11_sign_148 rfl rfl ?_
  refine ks_getf (T := TX11) (kf := 6) kx_1059 rfl in_X11 cl_X11 (by decide) a04 rfl dX11_sign_149 rfl ?_
  refine ks_aload_n dX11_sign_152 rfl rfl ?_
  refine ks_getf (T := TX11) (kf := 5) kx_1058 rfl in_X11 cl_X11 (by decide) a04 rfl dX11_sign_153 rfl ?_
  refine ks_iload_n dX11_sign_156 rfl rfl ?_
  refine ks_iload_n dX11_sign_157 rfl rfl ?_
  refine ks_callV (n := 3) (M' := mX7_nameSigned) (c_mc_nameSigned (d := d + 4) (inp := i) (ty := ty) h274 V4 w64 kgw2 hlw2 (by decide) (by decide) hik hty B4 (hb39.up u04 (by decide) (by decide)) ttl (hh.up u04 (by decide)) (u04.at h28 (by decide)) k28 K4) h274 cl_X7 rfl kx_1343 kx_1344 kx_1345 kx_24 kx_1346 (by decide +kernel) rfl (by decide) (Nat.le_of_ble_eq_true rfl) rfl dX11_sign_158 rfl (fun z5 T5 y5 => ?_)
  obtain ⟨rfl, u5, hh5, ⟨o5, b395⟩, gh, kgh, h285, egh⟩ := y5
  have egd : bytL gh 0 32 = sgD (Ds (dc - 1)) i ty T := by
    rw [egh]
    unfold sgD
    rw [← ql2]
    exact sgH_c (fun j hj => qg2 j (by rw [← ql2]; exact hj)) ttx hik
  have u05 : ks_up S T5 [5, 6, 8, 9, 10, 11, 20, 21, 22, 23, 24, 25, 26, 28, 37, 38, 39, 40] := (u04.mono (by decide)).trans (u5.mono (by decide))
  have a05 := u05.at h0 (by decide)
  have h275 := u05.at h27 (by decide)
  have e15 := u05.at e1 (by decide)
  have e25 := u05.at e2 (by decide)
  have cu5 := cu.up u05 (by decide)
  have T5b := hT.up u05 (by decide) (by decide)
  have K5 := u05.st hK (by unfold ks_B; decide)
  obtain ⟨ir5, R5, Q5, ⟨C5, -⟩, -⟩ := id cu5
  have O5 := C5.1
  refine ks_aload_n dX11_sign_161 rfl rfl ?_
  refine ks_getf (T := TX11) (kf := 4) kx_1057 rfl in_X11 cl_X11 (by decide) a05 rfl dX11_sign_162 rfl ?_
  refine ks_iload_n dX11_sign_165 rfl rfl ?_
  refine ks_iload_n dX11_sign_166 rfl rfl ?_
  refine ks_aload_n dX11_sign_167 rfl rfl ?_
  refine ks_getf (T := TX11) (kf := 6) kx_1059 rfl in_X11 cl_X11 (by decide) a05 rfl dX11_sign_168 rfl ?_
  refine ks_getf (T := TX7) (kf := 0) kx_643 rfl in_X7 cl_X7 (by decide) h275 rfl dX11_sign_171 rfl ?_
  refine ks_aload_n dX11_sign_174 rfl rfl ?_
  refine ks_getf (T := TX11) (kf := 3) kx_1056 rfl in_X11 cl_X11 (by decide) a05 rfl dX11_sign_175 rfl ?_
  refine ks_aload_n dX11_sign_178 rfl rfl ?_
  refine ks_getf (T := TX11) (kf := 0) kx_1053 rfl in_X11 cl_X11 (by decide) a05 rfl dX11_sign_179 rfl ?_
  refine ks_callV (n := 5) (M' := mX3_writeSignature) (c_cv_writeSig (d := d + 3) (n := n) (ty := ty) cu5 hh5 K5 h285 kgh T5b (by decide) (by decide) hn hty (by decide) (by decide) (by decide)) O5 cl_X3 rfl kx_1358 kx_1359 kx_1360 kx_4 kx_1361 (by decide +kernel) rfl (by decide) (Nat.le_of_ble_eq_true rfl) rfl dX11_sign_182 rfl (fun z6 T6 y6 => ?_)
  obtain ⟨rfl, u6, cu6, hh6, x0, s, SN, B6⟩ := y6
  have sl := wsL_len (x0 % nN) s ty
  have ps := psz73 sl
  obtain ⟨sig, hsig⟩ : ∃ q, wsL (x0 % nN) s ty = q := ⟨_, rfl⟩
  rw [hsig] at B6 sl ps
  have u06 : ks_up S T6 [1, 2, 5, 6, 8, 9, 10, 11, 16, 18, 19, 20, 21, 22, 23, 24, 25, 26, 28, 37, 38, 39, 40] := (u05.mono (by decide)).trans (u6.mono (by decide))
  have a06 := u06.at h0 (by decide)
  have l56 : ∀ x ∈ ([1, 2, 5, 6, 8, 9, 10, 11, 16, 18, 19, 20, 21, 22, 23, 24, 25, 26, 28, 37, 38, 39, 40] : List Nat), x < 41 := by decide
  have X6 := hxd.up u06 (fun x hx => by have := l56 x hx; omega)
  have D6 := hD.up u06 (fun x hx => by have := l56 x hx; omega)
  obtain ⟨zsz, zid, zix, zsq, zvl, zsc, zU, -, -⟩ := dx_len X6
  have z0' := zU.1
  obtain ⟨lt6, gt6, -, -, -, t16, -⟩ := id B6
  have Z6 : mcZ T6 := ⟨⟨cu6, hh6, ⟨gh, kgh, u6.at h285 (by decide)⟩, ⟨o5, b395.up u6 (by decide) (by decide)⟩, _, (B4.up u5 (by decide) (by decide)).up u6 (by decide) (by decide)⟩, ⟨xs, ys, us, hst.up u06 (by decide)⟩, ⟨dn, u06.at h36 (by decide)⟩, vw, ji, vc, j1, j2, j3, j4, j5, j6, i1, i2, i3, i4, u06.at h27 (by decide)⟩
  have R6 : tvR T6 := tvR_ex (tvR_ex V4.raw u5.ex (by decide) (by rw [u04.1]; exact hS64)) u6.ex (by decide) (by rw [u05.1]; exact hS64)
  have W6 : bfS T6 5 6 8000 (some (txL (Ds (dc - 1)))) := (((B2.up u3 (by decide) (by decide)).up u4 (by decide) (by decide)).up u5 (by decide) (by decide)).up u6 (by decide) (by decide)
  refine ks_aload dX11_sign_185 rfl rfl ?_
  refine ks_iload_n dX11_sign_187 rfl rfl ?_
  refine ks_aload_n dX11_sign_188 rfl rfl ?_
  refine ks_getf (T := TX11) (kf := 0) kx_1053 rfl in_X11 cl_X11 (by decide) a06 rfl dX11_sign_189 rfl ?_
  refine ks_callV (n := 2) (M' := mX4_addPush) (c_addPush (d := d + 7) X6 B6 (by omega) (by decide) hxi (by omega)) z0' cl_X4 rfl kx_1313 kx_1314 kx_1315 kx_28 kx_1316 (by decide +kernel) rfl (by decide) (Nat.le_of_ble_eq_true rfl) rfl dX11_sign_192 rfl (fun z7 T7 y7 => ?_)
  obtain ⟨rfl, u7, X7⟩ := y7
  have n9 : ∀ x, x < 56 → x ∉ dxL (56 + 19 * (dc - 1)) := fun x h hx => by have := dxL_me hx; omega
  have a07 := u7.at a06 (n9 _ (by decide))
  have B7 := B6.up u7 (n9 _ (by decide)) (n9 _ (by decide))
  have D7 := D6.put (by omega) u7 X7
  obtain ⟨lt7, gt7, -, -, -, t17, -⟩ := id B7
  refine ks_aload_n dX11_sign_195 rfl rfl ?_
  refine ks_getf (T := TX11) (kf := 0) kx_1053 rfl in_X11 cl_X11 (by decide) a07 rfl dX11_sign_196 rfl ?_
  refine ks_callV (n := 0) (M' := mX1_clear) (bf_clear (d := d + 8) B7) t17 cl_X1 rfl kx_842 kx_843 kx_844 kx_2 kx_845 (by decide +kernel) rfl (by decide) (Nat.le_of_ble_eq_true rfl) rfl dX11_sign_199 rfl (fun z8 T8 y8 => ?_)
  obtain ⟨rfl, u8, B8⟩ := y8
  have X8 := X7.up u8 (fun x hx => by simp only [List.mem_cons, List.not_mem_nil, or_false] at hx; omega)
  obtain ⟨psz_, pid, pix, psq, pvl, psc, pU, pI, -⟩ := dx_len X8
  have p0 := pU.1
  have p1 := pU.2.1
  have pan := dPush_an (pushL sig) hxi
  have psi := dx_sz pI pan
  refine ks_aload dX11_sign_202 rfl rfl ?_
  refine ks_getf (T := TX4) (kf := 2) kx_791 rfl in_X4 cl_X4 (by decide) p0 rfl dX11_sign_204 rfl ?_
  refine ks_iload_n dX11_sign_207 rfl rfl ?_
  refine ks_ialdN (i := i) p1 rfl (by omega) (by decide) dX11_sign_208 rfl ?_
  refine ks_iret rfl dX11_sign_209 ?_
  refine ⟨gh, x0, s, egd, SN, ?_, ?_, B8, ?_, ?_, ⟨_, (W6.up u7 (n9 _ (by decide)) (n9 _ (by decide))).up u8 (by decide) (by decide)⟩, ?_⟩
  · rw [psi, hsig]
    show some (Value.int (nI (x.2.2.1 ++ pushL sig).length)) = _
    rw [List.length_append, pushL_len]
  · refine (u06.mono (fun x hx => List.mem_append_left _ hx)).trans ((u7.mono (fun x hx => List.mem_append_right _ hx)).trans (u8.mono (fun x hx => List.mem_append_left _ ?_)))
    simp only [List.mem_cons, List.not_mem_nil, or_false] at hx ⊢
    omega
  · rw [hsig]; exact D7.up u8 (by decide)
  · exact (mcZ_ex (mcZ_ex Z6 u7.ex (hsO_ex hh6 u7.ex (fun x hx => by have := dxL_me hx; omega) (by rw [u06.1]; exact hS64)) (fun x hx => by have := dxL_me hx; omega) (by rw [u06.1]; exact hS64)) u8.ex (hsO_ex (hsO_ex hh6 u7.ex (fun x hx => by have := dxL_me hx; omega) (by rw [u06.1]; exact hS64)) u8.ex (by decide) (by rw [u7.1, u06.1]; exact hS64)) (by decide) (by rw [u7.1, u06.1]; exact hS64))
  · exact tvR_ex (tvR_ex R6 u7.ex (fun x hx => by have := dxL_me hx; omega) (by rw [u06.1]; exact hS64)) u8.ex (by decide) (by rw [u7.1, u06.1]; exact hS64)
