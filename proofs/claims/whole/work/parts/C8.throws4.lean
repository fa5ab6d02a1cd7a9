/-! THE JUDGE: judging that refuses where coins are counted -/
def spB (n : Nat) (B : Nat → Bk) (x : Nat) : Nat → Bk := fun i => bD (B i) (spL B (n - (x + 1)) (x + 1) (va_up (fun i => bkD (B i)) x true) i)
theorem jgI.bad {S0 S1 T : ks_S} {N best : Nat} {B1 Bc : Nat → Bk} {Pt : List Nat} {u q : Nat} {cc : Int32} {tk : Int64} (h : jgI S0 S1 N best B1 Bc Pt (u + 1) q) (hu : u < Pt.length)
    (ex : ks_ex S1 T (LCn ++ [bkN (Bc (Pt.getD u 0))])) (sz : T.1 = S1.1 ∧ T.2.1 ≤ S1.2.1 + 400) (hZ : mcZ T) (hR : tvR T) (h50 : ∃ f, T.2.2 50 = some (kN 580 f)) (h51 : ∃ f, T.2.2 51 = some (kN 40 f)) (hX : chX T N best cc tk Bc) : jgI S0 T N best B1 Bc Pt 0 q := by
  obtain ⟨-, i2, i3, i4, i5, i6, -, -, -, -, i11, i12, i13, i14, i15, i16, i17⟩ := h
  rw [take_rev hu] at i15
  obtain ⟨c1, c2, c3, c4, c5⟩ := i15
  refine ⟨⟨cc, tk, hX⟩, i2, ⟨by rw [sz.1]; exact i3.1, by rw [sz.1]; exact i3.2.1, by rw [sz.1]; exact i3.2.2⟩, i4, i5, i6, hZ, hR, h50, h51, ?_, i12, i13.trans (ex.mono (fun x hx => ?_)), i14, trivial, by omega, by omega⟩
  · refine ex.st i11 (fun a ha => ?_)
    rcases List.mem_append.mp ha with h | h
    · have := (by decide : ∀ x ∈ LCn, x < 56) a h
      show a < 1099511627776
      omega
    · rw [List.mem_singleton.mp h]
      have := (i3.2.2 _ c1).1
      have := i3.2.1
      omega
  · rcases List.mem_append.mp hx with h | h
    · exact List.mem_append_left _ h
    · rw [List.mem_singleton.mp h, (i12 _).2.1]
      exact List.mem_append_right _ (nmL_mem c1)
set_option maxRecDepth 100000 in
set_option maxHeartbeats 1600000 in
theorem t_judgeC {l : Launch} {G : ks_G} {d : Nat} {S : ks_S} (htr : l.stackTraces = false) {dc dp : Nat} {dt : Int64} {rs : Int32} (h0 : S.2.2 0 = some (jdO dc dp dt rs)) {n best : Nat} {cc : Int32} {tk : Int64} {B : Nat → Bk} (hX : chX S n best cc tk B) {sl : Option Nat} {T : List Nat} {N0 : Nat} {f48 gr : Nat → Nat} (hF : chF S n B sl) (hT : chT S n B) (hroom : S.1 + 100 < ks_B) (hW : chW n B) (hbf : bfS S 1 2 1600 (some T)) (hh : hsO S) (hR : tvR S) (hK : ks_stOK S) (hTg : tg_ok S N0) (h48 : S.2.2 48 = some (kL 11 f48)) (h49 : S.2.2 49 = some (kB 32 gr)) (hgr : kO gr) {f43 f50 f51 : Nat → Nat} (hma : mathOK) (hS : chS n B) (hC : chC n B) (hV : chV n B) (hZ : mcZ S) (h43 : S.2.2 43 = some (kN 60 f43)) (h50 : S.2.2 50 = some (kN 580 f50)) (h51 : S.2.2 51 = some (kN 40 f51)) (h00 : bkC (B 0) ≠ none) (hn0 : 0 < n) (hhn : bkH (B (inQ B n T - 1)) + 1 < 700) (hin : inF B n T = nI 0) (hn : n < 60) (hbe : best < n) (hwk : 2 ^ 256 / (tg_num (btB T) + 1) < 2 ^ 63) (hwb : bkW (B best) < 2 ^ 63) (hwn : (bkW (B (inQ B n T - 1)) + 2 ^ 256 / (tg_num (btB T) + 1)) < 2 ^ 63) (hgt : bkW (B best) < (bkW (B (inQ B n T - 1)) + 2 ^ 256 / (tg_num (btB T) + 1))) (hbad : ∀ b r, (jgR B n T b r).2.1 ≠ 0) : kt_P l G yX11_judge mX11_judge (d + 9) [.ref 0] S (fun z S' => z = some (.int (nI 3)) ∧ ∃ b S2 S5, inP S n best cc tk B sl T (some (.int (nI 0))) S2 ∧ (sl = some b ∨ (sl = none ∧ b = S.1)) ∧ S' = ks_one (ks_set S5 0 (jdO dc dp dt (nI (jgR B n T b S2.1).2.1))) ∧ jgO S2 S5 n best b (va_up B n (kpK B n T b)) (spB (n + 1) (jgR B n T b S2.1).1 (jgR B n T b S2.1).2.2)) := by
  have h0 : S.2.2 0 = some (.inr (14, [.ref 1, .ref 3, .ref 5, .ref 7, .ref 14, .ref 20, .ref 27, .ref 41, .ref 52, .ref 53, .ref 54, .ref 55, .int (nI dc), .int (nI dp), .long dt, .int rs])) := h0
  obtain ⟨len, g, -, -, -, e1, -⟩ := id hbf
  have hO := hX.1
  have s64 := hT.1
  have hhei : ∀ i, i < n → bkH (B i) < 700 := fun i hi => (hV i hi).1
  refine kt_of htr (by decide) rfl rfl (Nat.le_of_ble_eq_true rfl) ?_
  show ks_Y l G mX11_judge (d + 9) 0 [(0, .ref 0)] [] S _
  refine kt_aload_n dX11_judge_0 rfl rfl ?_
  refine kt_getf (T := TX11) (kf := 7) kx_1060 rfl in_X11 cl_X11 (by decide) h0 rfl dX11_judge_1 rfl ?_
  refine kt_aload_n dX11_judge_4 rfl rfl ?_
  refine kt_getf (T := TX11) (kf := 0) kx_1053 rfl in_X11 cl_X11 (by decide) h0 rfl dX11_judge_5 rfl ?_
  refine kt_callV (n := 1) (M' := mX2_inspect) (c_ch_inspect (d := d) hX hF hT (by omega) hW hhei hbf (by decide) hh hR hK hTg h48 h49 hgr) hO cl_X2 rfl kx_1427 kx_1428 kx_1429 kx_26 kx_1430 (by decide +kernel) rfl (by decide) (Nat.le_of_ble_eq_true rfl) rfl dX11_judge_8 rfl (fun z1 T1 y1 => ?_)
  have hI := y1
  obtain ⟨rfl, b, ex, hsz, X1, F1, hsl, hh1, R1, ⟨N1, Tg1⟩, -, -, hK1⟩ := y1
  obtain ⟨hq0, hqn, K1⟩ := hK1 hin
  obtain ⟨hb5, hsA, len2, cnt2, par2, hei2, g12, f22, g32, g42, bx⟩ := F1.2 b rfl
  have b56 := bx.2.2.2.2.2.2.2.2.2
  have nLI : ∀ x, x < 7 ∨ x = 43 ∨ x = 50 ∨ x = 51 → x ∉ LI b := fun x hx q => by
    rcases LI_mem q with h | h | h
    · have := (by decide : ∀ x ∈ LIn, 7 < x ∧ x ≠ 43 ∧ x ≠ 50 ∧ x ≠ 51) x h
      omega
    · omega
    · omega
  have a0 := ex.at h0 (nLI _ (by decide)) (by omega)
  have c43 := ex.at h43 (nLI _ (by decide)) (by omega)
  have c50 := ex.at h50 (nLI _ (by decide)) (by omega)
  have c51 := ex.at h51 (nLI _ (by decide)) (by omega)
  have Z1 := mcZ_ex hZ ex hh1 (fun x hx => by
    rcases LI_mem hx with h | h | h
    · have := (by decide : ∀ x ∈ LIn, x < 14 ∨ (20 ≤ x ∧ x ≤ 26) ∨ 40 < x) x h
      omega
    · omega
    · omega) s64
  have st1 := ex.st hK (fun x hx => by
    rcases LI_mem hx with h | h | h
    · have := (by decide : ∀ x ∈ LIn, x < 64) x h
      omega
    · omega
    · omega)
  have B1 := bfS_ex hbf ex (nLI _ (by decide)) (nLI _ (by decide)) (by omega) (by omega)
  obtain ⟨len3, g3, -, -, -, a1, -⟩ := id B1
  rw [hin]
  rw [hin] at hI
  refine kt_istore_n dX11_judge_11 (by decide) rfl ?_
  refine kt_sub [(1, _), (0, _)] rfl ?_
  refine kt_aload_n dX11_judge_12 rfl rfl ?_
  refine kt_getf (T := TX11) (kf := 0) kx_1053 rfl in_X11 cl_X11 (by decide) a0 rfl dX11_judge_13 rfl ?_
  refine kt_callV (n := 0) (M' := mX1_clear) (bf_clear (d := d + 8) B1) a1 cl_X1 rfl kx_842 kx_843 kx_844 kx_2 kx_845 (by decide +kernel) rfl (by decide) (Nat.le_of_ble_eq_true rfl) rfl dX11_judge_16 rfl (fun z2 T2 y2 => ?_)
  obtain ⟨rfl, w2, B2⟩ := y2
  have X2 := X1.up w2 (by decide)
  have F2 := F1.up w2 (by decide)
  have K2 := K1.up w2 (by decide)
  have Tg2 := Tg1.up w2 (by decide) (by decide) (fun h => absurd h (by decide)) (fun h => absurd h (by decide))
  have T2' : chT T2 n B := (hT.ex ex (by omega)).up w2
  have sT1 : 64 ≤ T1.1 := by have := ex.1; omega
  have sT2 : 64 ≤ T2.1 := by rw [w2.1]; exact sT1
  have hh2 := hsO_ex hh1 w2.ex (by decide) sT1
  have Z2 := mcZ_ex Z1 w2.ex hh2 (by decide) sT1
  have R2 := tvR_ex R1 w2.ex (by decide) sT1
  have c43b := w2.at c43 (by decide)
  have c50b := w2.at c50 (by decide)
  have c51b := w2.at c51 (by decide)
  have st2 := w2.ex.st st1 (by decide)
  have a02 := w2.at a0 (by decide)
  have O2 := X2.1
  refine kt_iload_n dX11_judge_19 rfl rfl ?_
  refine kt_iconst (x := (-1)) dX11_judge_20 (by decide) rfl ?_
  refine kt_icmp_ne (tgt := 26) dX11_judge_21 (by decide) rfl (fun _ => ?_) (fun h => absurd h (by decide))
  refine kt_iload_n dX11_judge_26 rfl rfl ?_
  refine kt_bipush (x := (-2)) dX11_judge_27 (by decide) rfl ?_
  refine kt_icmp_ne (tgt := 34) dX11_judge_29 (by decide) rfl (fun _ => ?_) (fun h => absurd h (by decide))
  refine kt_iload_n dX11_judge_34 rfl rfl ?_
  refine kt_if_eqN (tgt := 51) (by decide) dX11_judge_35 (by decide) rfl (fun _ => ?_) (fun h => absurd h (by decide))
  refine kt_aload_n dX11_judge_51 rfl rfl ?_
  refine kt_getf (T := TX11) (kf := 7) kx_1060 rfl in_X11 cl_X11 (by decide) a02 rfl dX11_judge_52 rfl ?_
  refine kt_getf (T := TX2) (kf := 3) kx_736 rfl in_X2 cl_X2 (by decide) O2 rfl dX11_judge_55 rfl ?_
  refine kt_bipush (x := nI 60) dX11_judge_58 (by decide) rfl ?_
  refine kt_icmp_neN (tgt := 71) (by omega) (by decide) dX11_judge_60 (by decide) rfl (fun h4 => ?_) (fun h4 => absurd h4 (by omega))
  refine kt_aload_n dX11_judge_71 rfl rfl ?_
  refine kt_getf (T := TX11) (kf := 7) kx_1060 rfl in_X11 cl_X11 (by decide) a02 rfl dX11_judge_72 rfl ?_
  refine kt_callV (n := 0) (M' := mX2_keep) (c_ch_keep (d := d + 6) X2 hn F2 K2 ⟨hq0, hqn⟩ T2' Tg2 hwk) O2 cl_X2 rfl kx_1515 kx_1516 kx_1517 kx_26 kx_1518 (by decide +kernel) rfl (by decide) (Nat.le_of_ble_eq_true rfl) rfl dX11_judge_75 rfl (fun z3 T3 y3 => ?_)
  obtain ⟨rfl, w3, X3, F3, N3, Tg3⟩ := y3
  have X3 : chX T3 (n + 1) best cc tk (va_up B n (kpK B n T b)) := X3
  have F3 : chF T3 (n + 1) (va_up B n (kpK B n T b)) none := F3
  have n3 : ∀ x, x < 41 ∨ x = 43 ∨ x = 50 ∨ x = 51 → x ∉ [45, 46, 47, 41, b] := by
    intro x h1 hx
    simp only [List.mem_cons, List.not_mem_nil, or_false] at hx
    omega
  have a03 := w3.at a02 (n3 _ (by decide))
  have c43c := w3.at c43b (n3 _ (by decide))
  have c50c := w3.at c50b (n3 _ (by decide))
  have c51c := w3.at c51b (n3 _ (by decide))
  have B3 := B2.up w3 (n3 _ (by decide)) (n3 _ (by decide))
  have L3 : ∀ x, x ∈ [45, 46, 47, 41, b] → 40 < x ∧ x < ks_B := by
    intro x hx
    simp only [List.mem_cons, List.not_mem_nil, or_false] at hx
    have := T2'.2.1
    have := hsz.1
    unfold ks_B at *
    have := w2.1
    omega
  have sT3 : 64 ≤ T3.1 := by rw [w3.1]; exact sT2
  have hh3 := hsO_ex hh2 w3.ex (fun x hx => by have := L3 x hx; omega) sT2
  have Z3 := mcZ_ex Z2 w3.ex hh3 (fun x hx => by have := L3 x hx; omega) sT2
  have R3 := tvR_ex R2 w3.ex (fun x hx => by have := L3 x hx; omega) sT2
  have st3 := w3.ex.st st2 (fun x hx => (L3 x hx).2)
  have T3' : chT T3 (n + 1) (va_up B n (kpK B n T b)) := (T2'.up w3).keep (k := kpK B n T b) (by rw [w3.1, w2.1]; exact hb5) rfl
  have S3' : chS (n + 1) (va_up B n (kpK B n T b)) := hS.keep (k := kpK B n T b) hsA rfl
  have W3' : chW (n + 1) (va_up B n (kpK B n T b)) := hW.keep (k := kpK B n T b) hn0 ⟨hq0, hqn⟩
  have C3' : chC (n + 1) (va_up B n (kpK B n T b)) := hC.keep (k := kpK B n T b) rfl
  have V3' : chV (n + 1) (va_up B n (kpK B n T b)) := hV.keep (k := kpK B n T b) ⟨hhn, inF_0 hin⟩
  obtain ⟨O3, ⟨bf3, h423, hbf3⟩, hB3, -⟩ := id X3
  have kn : va_up B n (kpK B n T b) n = kpK B n T b := va_up_self _ _ _
  have kb : va_up B n (kpK B n T b) best = B best := va_up_ne _ _ (by omega)
  have k0 : va_up B n (kpK B n T b) 0 = B 0 := va_up_ne _ _ (by omega)
  have bfn : bf3 n = some b := by rw [hbf3 n (by omega), kn]; rfl
  have bfb : bf3 best = some (bkN (B best)) := by rw [hbf3 best (by omega), kb]
  have on : ∃ g1 f2 g3 g4, bkX T3 b (nI T.length) (nI (mg T 80)) (nI (inQ B n T) - 1) (nI (bkH (B (inQ B n T - 1)) + 1)) (lN (bkW (B (inQ B n T - 1)) + 2 ^ 256 / (tg_num (btB T) + 1))) false .null g1 f2 g3 g4 := by
    have h9 := hB3 n (by omega)
    rw [kn] at h9
    obtain ⟨g1, f2, g3, g4, q, -⟩ := h9
    exact ⟨g1, f2, g3, g4, q⟩
  obtain ⟨gn1, fn2, gn3, gn4, on⟩ := on
  have h9b := hB3 best (by omega)
  rw [kb] at h9b
  obtain ⟨gb1, fb2, gb3, gb4, obb, -⟩ := h9b
  refine kt_istore_n dX11_judge_78 (by decide) rfl ?_
  refine kt_sub [(2, _), (0, _), (1, _)] rfl ?_
  refine kt_aload_n dX11_judge_79 rfl rfl ?_
  refine kt_getf (T := TX11) (kf := 7) kx_1060 rfl in_X11 cl_X11 (by decide) a03 rfl dX11_judge_80 rfl ?_
  refine kt_getf (T := TX2) (kf := 0) kx_730 rfl in_X2 cl_X2 (by decide) O3 rfl dX11_judge_83 rfl ?_
  refine kt_iload_n dX11_judge_86 rfl rfl ?_
  refine kt_aaldN (i := n) (b := b) (by decide) h423 rfl (by omega) (by decide) bfn dX11_judge_87 rfl ?_
  refine kt_getf (T := TX0) (kf := 8) kx_957 rfl in_X0 cl_X0 (by decide) on.1 rfl dX11_judge_88 rfl ?_
  refine kt_aload_n dX11_judge_91 rfl rfl ?_
  refine kt_getf (T := TX11) (kf := 7) kx_1060 rfl in_X11 cl_X11 (by decide) a03 rfl dX11_judge_92 rfl ?_
  refine kt_getf (T := TX2) (kf := 0) kx_730 rfl in_X2 cl_X2 (by decide) O3 rfl dX11_judge_95 rfl ?_
  refine kt_aload_n dX11_judge_98 rfl rfl ?_
  refine kt_getf (T := TX11) (kf := 7) kx_1060 rfl in_X11 cl_X11 (by decide) a03 rfl dX11_judge_99 rfl ?_
  refine kt_getf (T := TX2) (kf := 4) kx_737 rfl in_X2 cl_X2 (by decide) O3 rfl dX11_judge_102 rfl ?_
  refine kt_aaldN (i := best) (b := (bkN (B best))) (by decide) h423 rfl (by omega) (by decide) bfb dX11_judge_105 rfl ?_
  refine kt_getf (T := TX0) (kf := 8) kx_957 rfl in_X0 cl_X0 (by decide) obb.1 rfl dX11_judge_106 rfl ?_
  refine kt_lif_gtN (tgt := 115) (by omega) (by omega) dX11_judge_109 rfl dX11_judge_110 (by decide) rfl (fun h5 => ?_) (fun h5 => absurd h5 (by omega))
  refine kt_aload_n dX11_judge_115 rfl rfl ?_
  refine kt_getf (T := TX11) (kf := 7) kx_1060 rfl in_X11 cl_X11 (by decide) a03 rfl dX11_judge_116 rfl ?_
  refine kt_iload_n dX11_judge_119 rfl rfl ?_
  obtain ⟨B1', hB1⟩ : ∃ B1', B1' = va_up B n (kpK B n T b) := ⟨_, rfl⟩
  rw [← hB1] at X3 F3 T3' S3' W3' C3' V3' hbf3 hB3 kn kb k0
  refine kt_callV (n := 1) (M' := mX2_climb) (c_ch_climb (d := d + 8) X3 W3' (by omega : n < n + 1) c43c) O3 cl_X2 rfl kx_1519 kx_1520 kx_1521 kx_26 kx_1522 (by decide +kernel) rfl (by decide) (Nat.le_of_ble_eq_true rfl) rfl dX11_judge_120 rfl (fun z4 T4 y4 => ?_)
  obtain ⟨rfl, w4, fp, h43d, hfp⟩ := y4
  obtain ⟨Pt, hPt⟩ : ∃ Pt, clL B1' 60 (n + 1) = Pt := ⟨_, rfl⟩
  rw [hPt] at hfp ⊢
  obtain ⟨q0, cq, q0n, hcq, hcqO, -⟩ := cl_cq W3' (by rw [k0]; exact h00) (u := 60) (k := n + 1) (by omega) (by omega) (by omega)
  rw [hPt] at hcqO
  have pl60 : Pt.length ≤ 60 := by rw [← hPt]; exact clL_len
  have rm4 : T4.1 + Pt.length < ks_B := by rw [w4.1, w3.1, w2.1]; have := hsz.1; omega
  have a04 := w4.at a03 (by decide)
  have J0 : jgI T4 T4 (n + 1) best B1' B1' Pt Pt.length q0 := ⟨⟨cc, tk, X3.up w4 (by decide)⟩, S3', T3'.up w4, W3', C3', V3', Z3.up w4 (by decide), tvR_ex R3 w4.ex (by decide) sT3, ⟨_, w4.at c50c (by decide)⟩, ⟨_, w4.at c51c (by decide)⟩, w4.ex.st st3 (by decide), fun i => ⟨rfl, rfl, rfl, rfl, rfl, rfl⟩, ⟨Nat.le_refl _, Nat.le_refl _, fun a _ _ => rfl⟩, ⟨q0n, cq, hcq⟩, by rw [List.take_length]; exact hcqO, Nat.le_refl _, Nat.le_refl _⟩
  have nLJ : ∀ x, x < 7 ∨ x = 43 → x ∉ LCn ++ nmL (n + 1) B1' := fun x hx q => by
    rcases List.mem_append.mp q with h | h
    · have := (by decide : ∀ x ∈ LCn, 13 < x ∨ x = 8 ∨ x = 9 ∨ x = 10 ∨ x = 11) x h
      have := (by decide : ∀ x ∈ LCn, x ≠ 43) x h
      omega
    · unfold nmL at h
      obtain ⟨i, hi, rfl⟩ := List.mem_map.mp h
      obtain ⟨y1, y2, y3, y4, y5, -⟩ := hB3 i (List.mem_range.mp hi)
      have := y5.2.2.2.2.2.2.2.2.2
      omega
  refine kt_iconst (x := nI 1) dX11_judge_123 (by decide) rfl ?_
  refine kt_subD dX11_judge_124 rfl ?_
  refine kt_istore_n dX11_judge_125 (by decide) rfl ?_
  refine kt_sub [(3, _), (0, _), (1, _), (2, _)] rfl ?_
  obtain ⟨RR, hRR⟩ : ∃ RR, jgR B n T b T1.1 = RR := ⟨_, rfl⟩
  have e41 : T4.1 = T1.1 := by rw [w4.1, w3.1, w2.1]
  have exA : ks_ex T1 T4 (LJg n b B1') := by
    refine ((w2.ex.mono ?_).trans (w3.ex.mono ?_)).trans (w4.ex.mono ?_)
    · intro x hx; refine List.mem_append_left _ ?_; simp only [List.mem_cons, List.not_mem_nil, or_false] at hx ⊢; omega
    · intro x hx
      simp only [List.mem_cons, List.not_mem_nil, or_false] at hx
      by_cases e : x = 41
      · subst e; exact List.mem_append_right _ (List.mem_append_left _ (by decide))
      · refine List.mem_append_left _ ?_; simp only [List.mem_cons, List.not_mem_nil, or_false]; omega
    · intro x hx; refine List.mem_append_left _ ?_; simp only [List.mem_cons, List.not_mem_nil, or_false] at hx ⊢; omega
  have h56 : ∀ x ∈ nmL (n + 1) B1', 56 ≤ x := fun x hx => by
    unfold nmL at hx
    obtain ⟨i, hi, rfl⟩ := List.mem_map.mp hx
    obtain ⟨y1, y2, y3, y4, y5, -⟩ := hB3 i (List.mem_range.mp hi)
    exact y5.2.2.2.2.2.2.2.2.2
  have B4 := B3.up w4 (by decide) (by decide)
  have F4 := F3.ag (B' := B1') (w4.2.2 42 (by decide))
  have Tg4 := Tg3.ag (fun a g1 g2 => w4.2.2 a (by simp only [List.mem_cons, List.not_mem_nil, or_false]; omega))
  have z41 : T4.1 = T1.1 ∧ T4.2.1 = T1.2.1 := ⟨e41, by rw [w4.2.1, w3.2.1, w2.2.1]⟩
  have sT4 : 64 ≤ T4.1 := by rw [w4.1]; exact sT3
  have hR0 : RR.2.1 ≠ 0 := by rw [← hRR]; exact hbad _ _
  have loop : ∀ (u : Nat) (S1 : ks_S) (Bc : Nat → Bk) (q : Nat), u ≤ Pt.length → jgI T4 S1 (n + 1) best B1' Bc Pt u q → cnA Bc S1.1 (Pt.take u).reverse = RR → ks_Y l G mX11_judge (d + 9) 126 [(0, .ref 0), (2, .int (nI n)), (3, .int (nI u - 1))] [] S1 (fun z S' => z = some (.int (nI 3)) ∧ ∃ b S2 S5, inP S n best cc tk B sl T (some (.int (nI 0))) S2 ∧ (sl = some b ∨ (sl = none ∧ b = S.1)) ∧ S' = ks_one (ks_set S5 0 (jdO dc dp dt (nI (jgR B n T b S2.1).2.1))) ∧ jgO S2 S5 n best b (va_up B n (kpK B n T b)) (spB (n + 1) (jgR B n T b S2.1).1 (jgR B n T b S2.1).2.2)) := by
    intro u
    induction u with
    | zero =>
      intro S1 Bc q hu hJ hr
      have hr : (Bc, 0, 0) = RR := hr
      rw [← hr] at hR0
      exact absurd rfl hR0
    | succ u ih =>
      intro S1 Bc q hu hJ hr
      have J := hJ
      obtain ⟨⟨cc1, tk1, Xc⟩, Sc, Tc, Wc, Cc, Vc, Zc, Rc, ⟨f50c, e50⟩, ⟨f51c, e51⟩, stc, eqc, exc, ⟨qn, ⟨rq, Lq⟩, hq⟩, hQ, -, -⟩ := hJ
      rw [take_rev (by omega)] at hQ hr
      obtain ⟨b1, b2, b3, b4, -⟩ := hQ
      have e0 := exc.at a04 (nLJ _ (by decide)) (by have := (T3'.up w4).1; omega)
      have e43 := exc.at h43d (nLJ _ (by decide)) (by have := (T3'.up w4).1; omega)
      have Oc := Xc.1
      have fpu : fp u = Pt.getD u 0 := hfp u (by omega)
      have ecn : cnC Bc (Pt.getD u 0) = Lq := by unfold cnC; rw [b2, Nat.add_sub_cancel, hq]
      rw [nI_D (by omega : 0 < u + 1), Nat.add_sub_cancel]
      refine kt_iload_n dX11_judge_126 rfl rfl ?_
      refine kt_if_ltN (tgt := 189) (by omega) dX11_judge_127 (by decide) rfl ?_
      refine kt_aload_n dX11_judge_130 rfl rfl ?_
      refine kt_getf (T := TX11) (kf := 7) kx_1060 rfl in_X11 cl_X11 (by decide) e0 rfl dX11_judge_131 rfl ?_
      refine kt_aload_n dX11_judge_134 rfl rfl ?_
      refine kt_getf (T := TX11) (kf := 7) kx_1060 rfl in_X11 cl_X11 (by decide) e0 rfl dX11_judge_135 rfl ?_
      refine kt_getf (T := TX2) (kf := 1) kx_732 rfl in_X2 cl_X2 (by decide) Oc rfl dX11_judge_138 rfl ?_
      refine kt_iload_n dX11_judge_141 rfl rfl ?_
      refine kt_ialdN (i := u) e43 rfl (by omega) (by decide) dX11_judge_142 rfl ?_
      rw [fpu]
      refine kt_callV (n := 1) (M' := mX2_connect) (c_ch_connect (d := d) Xc hma stc Sc Tc b1 b2 qn hq (Cc q _ qn hq) (fun b t hb ht => (Vc b hb).2.2 t ht) Zc Rc e50 e51 (fun i hi => (Vc i hi).1) (Vc _ b1).2.1 b3) Oc cl_X2 rfl kx_1523 kx_1524 kx_1525 kx_26 kx_1526 (by decide +kernel) rfl (by decide) (Nat.le_of_ble_eq_true rfl) rfl dX11_judge_143 rfl (fun z5 T5 y5 => ?_)
      rw [show cnF Bc (bkM (Bc (Pt.getD u 0))) (Pt.getD u 0) (bkH (Bc (Pt.getD u 0))) (mg (bkM (Bc (Pt.getD u 0))) 80) 0 Lq 0 = cnO Bc (Pt.getD u 0) from by unfold cnO; rw [ecn]] at y5
      obtain ⟨rfl, ex5, sz5, Z5, R5, h505, h515, hbad', hgood⟩ := y5
      unfold cnA at hr
      have hle := cnO_le (B := Bc) (b := Pt.getD u 0)
      refine kt_istore dX11_judge_146 (by decide) rfl ?_
      refine kt_sub [(4, _), (0, _), (2, _), (3, _)] rfl ?_
      refine kt_iload dX11_judge_148 rfl rfl ?_
      refine kt_if_eqN (tgt := 183) (by omega) dX11_judge_150 (by decide) rfl (fun h7 => ?_) (fun h7 => ?_)
      · rw [if_pos h7] at hr
        obtain ⟨g1, g2, g3, cc5, tk5, X5⟩ := hgood h7
        have J5 := J.step (by omega) rm4 ex5 ⟨g1, sz5.2⟩ Z5 R5 h505 h515 g3 X5
        refine kt_incD dX11_judge_183 rfl (by decide) (by decide) rfl ?_
        refine kt_sub [(3, _), (0, _), (2, _), (4, _)] rfl ?_
        refine kt_goto (tgt := 126) dX11_judge_186 (by decide) ?_
        exact kt_sub [(0, _), (2, _), (3, _)] rfl (ih T5 _ _ (by omega) J5 (by rw [g1]; exact hr))
      · rw [if_neg h7] at hr
        obtain ⟨g1, cc5, tk5, X5⟩ := hbad' h7
        have J5 := J.bad (by omega) ex5 ⟨g1, sz5.2⟩ Z5 R5 h505 h515 X5
        have Of := J5.fin exA z41 pl60 sT4 B4 F4 Tg4 h43d h56
        have exc5 := J5.2.2.2.2.2.2.2.2.2.2.2.2.1
        have e05 := exc5.at a04 (nLJ _ (by decide)) (by omega)
        have e435 := exc5.at h43d (nLJ _ (by decide)) (by omega)
        have O5 := X5.1
        refine kt_aload_n dX11_judge_153 rfl rfl ?_
        refine kt_getf (T := TX11) (kf := 7) kx_1060 rfl in_X11 cl_X11 (by decide) e05 rfl dX11_judge_154 rfl ?_
        refine kt_aload_n dX11_judge_157 rfl rfl ?_
        refine kt_getf (T := TX11) (kf := 7) kx_1060 rfl in_X11 cl_X11 (by decide) e05 rfl dX11_judge_158 rfl ?_
        refine kt_getf (T := TX2) (kf := 1) kx_732 rfl in_X2 cl_X2 (by decide) O5 rfl dX11_judge_161 rfl ?_
        refine kt_iload_n dX11_judge_164 rfl rfl ?_
        refine kt_ialdN (i := u) e435 rfl (by omega) (by decide) dX11_judge_165 rfl ?_
        rw [fpu]
        refine kt_callV (n := 1) (M' := mX2_spoil) (c_ch_spoil (d := d + 8) X5 Wc Sc b1) O5 cl_X2 rfl kx_1728 kx_1729 kx_1730 kx_26 kx_1731 (by decide +kernel) rfl (by decide) (Nat.le_of_ble_eq_true rfl) rfl dX11_judge_166 rfl (fun z6 T6 y6 => ?_)
        obtain ⟨rfl, w6, X6⟩ := y6
        rw [nmL_congr (fun i => (eqc i).2.1)] at w6
        have n56 : ∀ x, x < 56 → x ∉ nmL (n + 1) B1' := fun x hx q => by have := h56 x q; omega
        have e06 := w6.at e05 (n56 _ (by decide))
        have Of6 := Of.spoil w6 X6 h56
        have rB6 : T6.1 < ks_B := by rw [w6.1]; have := Of.2.1.1; omega
        refine kt_aload_n dX11_judge_169 rfl rfl ?_
        refine kt_iload dX11_judge_170 rfl rfl ?_
        refine kt_putf (T := TX11) (kf := 15) kx_1068 rfl in_X11 tyX11_ok nmX11 cl_X11 (by decide) e06 (Nat.le_of_ble_eq_true rfl) rfl rfl rfl rfl dX11_judge_172 rfl ?_
        exact kt_throw (k := 3) (names := ["java/lang/RuntimeException", "java/lang/Exception"]) rfl (by decide +kernel) (by decide +kernel) tw_cl3 tw_in3 tw_at3 (by decide) (Nat.le_of_ble_eq_true rfl) rB6 dX11_judge_175 dX11_judge_178 dX11_judge_179 dX11_judge_182 ⟨rfl, b, T1, T6, hI, hsl, by rw [hRR, ← hr]; rfl, by rw [hRR, ← hr, ← hB1]; exact Of6⟩
  exact kt_sub [(0, _), (2, _), (3, _)] rfl (loop Pt.length T4 B1' q0 (Nat.le_refl _) J0 (by rw [List.take_length, ← hRR, e41, ← hPt, hB1]; rfl))
