/-! THE JUDGE: judge, a block that is kept and doesn't lead -/
/-- the block that is kept -/
def kpK (B : Nat → Bk) (n : Nat) (T : List Nat) (b : Nat) : Bk := (b, T, inQ B n T, bkH (B (inQ B n T - 1)) + 1, (bkW (B (inQ B n T - 1)) + 2 ^ 256 / (tg_num (btB T) + 1)), false, none)
theorem chF.up {S S1 : ks_S} {n : Nat} {B : Nat → Bk} {sl : Option Nat} {L : List Nat} (h : chF S n B sl) (hu : ks_up S S1 L) (hL : ∀ x ∈ L, x < 56 ∧ x ≠ 42) : chF S1 n B sl := by
  obtain ⟨⟨bf, h1, h2, h3⟩, h4⟩ := h
  refine ⟨⟨bf, hu.at h1 (fun q => (hL _ q).2 rfl), h2, h3⟩, fun b hb => ?_⟩
  obtain ⟨c1, c2, len, cnt, par, hei, g1, f2, g3, g4, c3⟩ := h4 b hb
  have := c3.2.2.2.2.2.2.2.2.2
  exact ⟨by rw [hu.1]; exact c1, c2, len, cnt, par, hei, g1, f2, g3, g4, c3.up hu (fun x hx => by have := (hL x hx).1; omega)⟩
set_option maxRecDepth 100000 in
set_option maxHeartbeats 800000 in
theorem c_jd_judge1 {l : Launch} {G : ks_G} {d : Nat} {S : ks_S} {dc dp : Nat} {dt : Int64} {rs : Int32} (h0 : S.2.2 0 = some (jdO dc dp dt rs)) {n best : Nat} {cc : Int32} {tk : Int64} {B : Nat → Bk} (hX : chX S n best cc tk B) {sl : Option Nat} {T : List Nat} {N0 : Nat} {f48 gr : Nat → Nat} (hF : chF S n B sl) (hT : chT S n B) (hroom : S.1 + 10 < ks_B) (hW : chW n B) (hhei : ∀ i, i < n → bkH (B i) < 700) (hbf : bfS S 1 2 1600 (some T)) (hh : hsO S) (hR : tvR S) (hK : ks_stOK S) (hTg : tg_ok S N0) (h48 : S.2.2 48 = some (kL 11 f48)) (h49 : S.2.2 49 = some (kB 32 gr)) (hgr : kO gr) (hin : inF B n T = nI 0) (hn : n < 60) (hbe : best < n) (hwk : 2 ^ 256 / (tg_num (btB T) + 1) < 2 ^ 63) (hwb : bkW (B best) < 2 ^ 63) (hwn : (bkW (B (inQ B n T - 1)) + 2 ^ 256 / (tg_num (btB T) + 1)) < 2 ^ 63) (hle : (bkW (B (inQ B n T - 1)) + 2 ^ 256 / (tg_num (btB T) + 1)) ≤ bkW (B best)) : ks_P l G yX11_judge mX11_judge (d + 9) [.ref 0] S (fun z S' => z = some (.int (nI 1)) ∧ ∃ b S2, inP S n best cc tk B sl T (some (.int (nI 0))) S2 ∧ (sl = some b ∨ (sl = none ∧ b = S.1)) ∧ ks_up S2 S' [2, 1, 45, 46, 47, 41, b] ∧ bfS S' 1 2 1600 (some []) ∧ chX S' (n + 1) best cc tk (va_up B n (kpK B n T b)) ∧ chF S' (n + 1) (va_up B n (kpK B n T b)) none ∧ ∃ N, tg_ok S' N) := by
  have h0 : S.2.2 0 = some (.inr (14, [.ref 1, .ref 3, .ref 5, .ref 7, .ref 14, .ref 20, .ref 27, .ref 41, .ref 52, .ref 53, .ref 54, .ref 55, .int (nI dc), .int (nI dp), .long dt, .int rs])) := h0
  obtain ⟨len, g, -, -, -, e1, -⟩ := id hbf
  have hO := hX.1
  have s64 := hT.1
  refine ks_of (by decide) rfl rfl (Nat.le_of_ble_eq_true rfl) ?_
  show ks_X l G mX11_judge (d + 9) 0 [(0, .ref 0)] [] S _
  refine ks_aload_n dX11_judge_0 rfl rfl ?_
  refine ks_getf (T := TX11) (kf := 7) kx_1060 rfl in_X11 cl_X11 (by decide) h0 rfl dX11_judge_1 rfl ?_
  refine ks_aload_n dX11_judge_4 rfl rfl ?_
  refine ks_getf (T := TX11) (kf := 0) kx_1053 rfl in_X11 cl_X11 (by decide) h0 rfl dX11_judge_5 rfl ?_
  refine ks_callV (n := 1) (M' := mX2_inspect) (c_ch_inspect (d := d) hX hF hT hroom hW hhei hbf (by decide) hh hR hK hTg h48 h49 hgr) hO cl_X2 rfl kx_1427 kx_1428 kx_1429 kx_26 kx_1430 (by decide +kernel) rfl (by decide) (Nat.le_of_ble_eq_true rfl) rfl dX11_judge_8 rfl (fun z1 T1 y1 => ?_)
  have hI := y1
  obtain ⟨rfl, b, ex, hsz, X1, F1, hsl, hh1, R1, ⟨N1, Tg1⟩, -, -, hK1⟩ := y1
  obtain ⟨hq0, hqn, K1⟩ := hK1 hin
  obtain ⟨hb5, hsA, len2, cnt2, par2, hei2, g12, f22, g32, g42, bx⟩ := F1.2 b rfl
  have b56 := bx.2.2.2.2.2.2.2.2.2
  have nLI : ∀ x, x < 7 → x ∉ LI b := fun x hx q => by
    rcases LI_mem q with h | h | h
    · have := (by decide : ∀ x ∈ LIn, 7 < x) x h
      omega
    · omega
    · omega
  have a0 := ex.at h0 (nLI _ (by decide)) (by omega)
  have B1 := bfS_ex hbf ex (nLI _ (by decide)) (nLI _ (by decide)) (by omega) (by omega)
  obtain ⟨len3, g3, -, -, -, a1, -⟩ := id B1
  rw [hin]
  rw [hin] at hI
  refine ks_istore_n dX11_judge_11 (by decide) rfl ?_
  refine ks_sub [(1, _), (0, _)] rfl ?_
  refine ks_aload_n dX11_judge_12 rfl rfl ?_
  refine ks_getf (T := TX11) (kf := 0) kx_1053 rfl in_X11 cl_X11 (by decide) a0 rfl dX11_judge_13 rfl ?_
  refine ks_callV (n := 0) (M' := mX1_clear) (bf_clear (d := d + 8) B1) a1 cl_X1 rfl kx_842 kx_843 kx_844 kx_2 kx_845 (by decide +kernel) rfl (by decide) (Nat.le_of_ble_eq_true rfl) rfl dX11_judge_16 rfl (fun z2 T2 y2 => ?_)
  obtain ⟨rfl, w2, B2⟩ := y2
  have X2 := X1.up w2 (by decide)
  have F2 := F1.up w2 (by decide)
  have K2 := K1.up w2 (by decide)
  have Tg2 := Tg1.up w2 (by decide) (by decide) (fun h => absurd h (by decide)) (fun h => absurd h (by decide))
  have T2' : chT T2 n B := (hT.ex ex (by omega)).up w2
  have a02 := w2.at a0 (by decide)
  have O2 := X2.1
  refine ks_iload_n dX11_judge_19 rfl rfl ?_
  refine ks_iconst (x := (-1)) dX11_judge_20 (by decide) rfl ?_
  refine ks_icmp_ne (tgt := 26) dX11_judge_21 (by decide) rfl (fun _ => ?_) (fun h => absurd h (by decide))
  refine ks_iload_n dX11_judge_26 rfl rfl ?_
  refine ks_bipush (x := (-2)) dX11_judge_27 (by decide) rfl ?_
  refine ks_icmp_ne (tgt := 34) dX11_judge_29 (by decide) rfl (fun _ => ?_) (fun h => absurd h (by decide))
  refine ks_iload_n dX11_judge_34 rfl rfl ?_
  refine ks_if_eqN (tgt := 51) (by decide) dX11_judge_35 (by decide) rfl (fun _ => ?_) (fun h => absurd h (by decide))
  refine ks_aload_n dX11_judge_51 rfl rfl ?_
  refine ks_getf (T := TX11) (kf := 7) kx_1060 rfl in_X11 cl_X11 (by decide) a02 rfl dX11_judge_52 rfl ?_
  refine ks_getf (T := TX2) (kf := 3) kx_736 rfl in_X2 cl_X2 (by decide) O2 rfl dX11_judge_55 rfl ?_
  refine ks_bipush (x := nI 60) dX11_judge_58 (by decide) rfl ?_
  refine ks_icmp_neN (tgt := 71) (by omega) (by decide) dX11_judge_60 (by decide) rfl (fun h4 => ?_) (fun h4 => absurd h4 (by omega))
  refine ks_aload_n dX11_judge_71 rfl rfl ?_
  refine ks_getf (T := TX11) (kf := 7) kx_1060 rfl in_X11 cl_X11 (by decide) a02 rfl dX11_judge_72 rfl ?_
  refine ks_callV (n := 0) (M' := mX2_keep) (c_ch_keep (d := d + 6) X2 hn F2 K2 ⟨hq0, hqn⟩ T2' Tg2 hwk) O2 cl_X2 rfl kx_1515 kx_1516 kx_1517 kx_26 kx_1518 (by decide +kernel) rfl (by decide) (Nat.le_of_ble_eq_true rfl) rfl dX11_judge_75 rfl (fun z3 T3 y3 => ?_)
  obtain ⟨rfl, w3, X3, F3, N3, Tg3⟩ := y3
  have X3 : chX T3 (n + 1) best cc tk (va_up B n (kpK B n T b)) := X3
  have F3 : chF T3 (n + 1) (va_up B n (kpK B n T b)) none := F3
  have n3 : ∀ x, x < 41 → x ∉ [45, 46, 47, 41, b] := by
    intro x h1 hx
    simp only [List.mem_cons, List.not_mem_nil, or_false] at hx
    omega
  have a03 := w3.at a02 (n3 _ (by decide))
  have B3 := B2.up w3 (n3 _ (by decide)) (n3 _ (by decide))
  obtain ⟨O3, ⟨bf3, h423, hbf3⟩, hB3, -⟩ := id X3
  have kn : va_up B n (kpK B n T b) n = kpK B n T b := va_up_self _ _ _
  have kb : va_up B n (kpK B n T b) best = B best := va_up_ne _ _ (by omega)
  have bfn : bf3 n = some b := by rw [hbf3 n (by omega), kn]; rfl
  have bfb : bf3 best = some (bkN (B best)) := by rw [hbf3 best (by omega), kb]
  have on : ∃ g1 f2 g3 g4, bkX T3 b (nI T.length) (nI (mg T 80)) (nI (inQ B n T) - 1) (nI (bkH (B (inQ B n T - 1)) + 1)) (lN (bkW (B (inQ B n T - 1)) + 2 ^ 256 / (tg_num (btB T) + 1))) false .null g1 f2 g3 g4 := by
    have h9 := hB3 n (by omega)
    rw [kn] at h9
    obtain ⟨g1, f2, g3, g4, q, -⟩ := h9
    exact ⟨g1, f2, g3, g4, q⟩
  obtain ⟨gn1, fn2, gn3, gn4, on⟩ := on
  have h9b := hB3 best (by omega)
  rw [kb] at h9b
  obtain ⟨gb1, fb2, gb3, gb4, obb, -⟩ := h9b
  refine ks_istore_n dX11_judge_78 (by decide) rfl ?_
  refine ks_sub [(2, _), (0, _), (1, _)] rfl ?_
  refine ks_aload_n dX11_judge_79 rfl rfl ?_
  refine ks_getf (T := TX11) (kf := 7) kx_1060 rfl in_X11 cl_X11 (by decide) a03 rfl dX11_judge_80 rfl ?_
  refine ks_getf (T := TX2) (kf := 0) kx_730 rfl in_X2 cl_X2 (by decide) O3 rfl dX11_judge_83 rfl ?_
  refine ks_iload_n dX11_judge_86 rfl rfl ?_
  refine ks_aaldN (i := n) (b := b) (by decide) h423 rfl (by omega) (by decide) bfn dX11_judge_87 rfl ?_
  refine ks_getf (T := TX0) (kf := 8) kx_957 rfl in_X0 cl_X0 (by decide) on.1 rfl dX11_judge_88 rfl ?_
  refine ks_aload_n dX11_judge_91 rfl rfl ?_
  refine ks_getf (T := TX11) (kf := 7) kx_1060 rfl in_X11 cl_X11 (by decide) a03 rfl dX11_judge_92 rfl ?_
  refine ks_getf (T := TX2) (kf := 0) kx_730 rfl in_X2 cl_X2 (by decide) O3 rfl dX11_judge_95 rfl ?_
  refine ks_aload_n dX11_judge_98 rfl rfl ?_
  refine ks_getf (T := TX11) (kf := 7) kx_1060 rfl in_X11 cl_X11 (by decide) a03 rfl dX11_judge_99 rfl ?_
  refine ks_getf (T := TX2) (kf := 4) kx_737 rfl in_X2 cl_X2 (by decide) O3 rfl dX11_judge_102 rfl ?_
  refine ks_aaldN (i := best) (b := (bkN (B best))) (by decide) h423 rfl (by omega) (by decide) bfb dX11_judge_105 rfl ?_
  refine ks_getf (T := TX0) (kf := 8) kx_957 rfl in_X0 cl_X0 (by decide) obb.1 rfl dX11_judge_106 rfl ?_
  refine ks_lif_gtN (tgt := 115) (by omega) (by omega) dX11_judge_109 rfl dX11_judge_110 (by decide) rfl (fun h5 => absurd h5 (by omega)) (fun h5 => ?_)
  refine ks_iconst (x := nI 1) dX11_judge_113 (by decide) rfl ?_
  refine ks_iret rfl dX11_judge_114 ?_
  refine ⟨rfl, b, T1, hI, hsl, (w2.mono ?_).trans (w3.mono ?_), B3, X3, F3, N3, Tg3⟩
  · intro x hx; simp only [List.mem_cons, List.not_mem_nil, or_false] at hx ⊢; omega
  · intro x hx; simp only [List.mem_cons, List.not_mem_nil, or_false] at hx ⊢; omega
