/-! BLOCK: read, a block of one transaction -/
set_option maxRecDepth 100000 in
set_option maxHeartbeats 800000 in
theorem c_bk_read1 {l : Launch} {G : ks_G} {d : Nat} {S : ks_S} {b : Nat} {len cnt par hei : Int32} {wk : Int64} {bad : Bool} {cr : Value} {g1 f2 g3 g4 : Nat → Nat} {M : List Nat} {tb ta : Nat} (hX : bkX S b len cnt par hei wk bad cr g1 f2 g3 g4) (hT : bfS S tb ta 1600 (some M)) (htb : tb < 7 ∧ ta < 7) (hh : hsO S) (hR : tvR S) (hK : ks_stOK S) (hbl : blk_ (mg M) M.length = true) (hm1 : mg M 80 = 1) : ks_P l G yX0_read mX0_read (d + 5) [.ref b, .ref tb, .ref 20, .ref 7] S (fun z S' => z = some (.int (ks_bo true)) ∧ ks_up S S' [9, 8, 10, 11, 12, 20, 21, 22, 23, 24, 25, 26, b, b + 1, b + 2, b + 4] ∧ hsO S' ∧ ∃ g1 f2 g4, bkX S' b (nI M.length) (nI (mg M 80)) par hei wk bad cr g1 f2 g3 g4 ∧ (∀ j, j < M.length → g1 j = mg M j) ∧ (∀ q, q ≤ mg M 80 → bs_ (mg M) M.length q = some (f2 q)) ∧ (∀ j, j < 32 → g4 j = hsB M j) ∧ tv_ok S' (b + 1) g1 M.length 81 (txP M 0).1 (txP M 0).2.1 (txP M 0).2.2.1 (txP M 0).2.2.2.1 (txP M 0).2.2.2.2) := by
  obtain ⟨ln, gt, t1, t2, t3, t4, t5, t6⟩ := hT
  subst t5
  have hbB := hX.2.2.2.2.2.2.2.2.1
  have hb56 := hX.2.2.2.2.2.2.2.2.2
  have b9 := blk_b hbl
  have q0 := bk_tx hbl (t := 0) (by omega)
  have tx5 := bk_tx5 hbl (t := 0) (by omega)
  have s0 : bsP M 0 = 81 := rfl
  have s1 : bs_ (mg M) M.length 1 = some M.length := by
    have h9 := (of_decide_eq_true hbl).2.2
    rw [hm1] at h9
    exact h9
  have e5 : (txP M 0).2.2.2.2 = M.length := by
    have h9 := bs_s (t := 0) (a := 81) (g := mg M) (n := M.length) rfl tx5
    rw [s1] at h9
    exact (Option.some.inj h9).symm
  have hgM : ∀ j, j < M.length → va_cpy gt g1 0 0 M.length j = mg M j := fun j hj => by
    rw [pk_cpy_in (by omega) (by omega), Nat.zero_add, Nat.sub_zero]
    exact t6 j hj
  have hg1 : kO (va_cpy gt g1 0 0 M.length) := kO_cpy t1 hX.2.2.2.2.2.1 _ _ _
  refine ks_of (by decide) rfl rfl (Nat.le_of_ble_eq_true rfl) ?_
  show ks_X l G mX0_read (d + 5) 0 [(0, .ref b), (1, .ref tb), (2, .ref 20), (3, .ref 7)] [] S _
  refine ks_aload_n dX0_read_0 rfl rfl ?_
  refine ks_aload_n dX0_read_1 rfl rfl ?_
  refine ks_getf (T := TX1) (kf := 1) kx_58 rfl in_X1 cl_X1 (by decide) t4 rfl dX0_read_2 rfl ?_
  refine ks_putf (T := TX0) (kf := 4) kx_945 rfl in_X0 tyX0_ok nmX0 cl_X0 (by decide) hX.1 (Nat.le_of_ble_eq_true rfl) rfl rfl rfl rfl dX0_read_5 rfl ?_
  refine ks_aload_n dX0_read_8 rfl rfl ?_
  refine ks_getf (T := TX1) (kf := 0) kx_52 rfl in_X1 cl_X1 (by decide) ((ks_set_ne _ _ (by omega)).trans t4) rfl dX0_read_9 rfl ?_
  refine ks_iconst (x := nI 0) dX0_read_12 (by decide) rfl ?_
  refine ks_aload_n dX0_read_13 rfl rfl ?_
  refine ks_getf (T := TX0) (kf := 0) kx_935 rfl in_X0 cl_X0 (by decide) (ks_set_same _ _ _) rfl dX0_read_14 rfl ?_
  refine ks_iconst (x := nI 0) dX0_read_17 (by decide) rfl ?_
  refine ks_aload_n dX0_read_18 rfl rfl ?_
  refine ks_getf (T := TX0) (kf := 4) kx_945 rfl in_X0 cl_X0 (by decide) (ks_set_same _ _ _) rfl dX0_read_19 rfl ?_
  refine ks_copyB (n := M.length) (dp := 0) (sp := 0) ((ks_set_ne _ _ (by omega)).trans t3) ((ks_set_ne _ _ (by omega)).trans hX.2.1) rfl rfl rfl (by omega) (by omega) (by decide) (by decide) kx_988 kx_275 kx_274 kx_17 (by omega) (Nat.le_of_ble_eq_true rfl) dX0_read_22 rfl ?_
  refine ks_aload_n dX0_read_25 rfl rfl ?_
  refine ks_aload_n dX0_read_26 rfl rfl ?_
  refine ks_getf (T := TX0) (kf := 4) kx_945 rfl in_X0 cl_X0 (by decide) ((ks_set_ne _ _ (by omega)).trans (ks_set_same _ _ _)) rfl dX0_read_27 rfl ?_
  refine ks_bipush (x := nI 80) dX0_read_30 (by decide) rfl ?_
  refine ks_icmp_leN (tgt := 49) (by omega) (by decide) dX0_read_32 (by decide) rfl (fun h1 => absurd h1 (by omega)) (fun h1 => ?_)
  refine ks_aload_n dX0_read_35 rfl rfl ?_
  refine ks_getf (T := TX0) (kf := 0) kx_935 rfl in_X0 cl_X0 (by decide) ((ks_set_ne _ _ (by omega)).trans (ks_set_same _ _ _)) rfl dX0_read_36 rfl ?_
  refine ks_bipush (x := nI 80) dX0_read_39 (by decide) rfl ?_
  refine ks_baldB (i := 80) (ks_set_same _ _ _) rfl (by decide) (by decide) dX0_read_41 rfl ?_
  refine ks_sipush (x := nI 255) dX0_read_42 (by decide) rfl ?_
  refine ks_andB (hg1 _) dX0_read_45 rfl ?_
  have hy45 : (va_cpy gt g1 0 0 M.length) 80 < 256 := (hg1 _)
  refine ks_goto (tgt := 50) dX0_read_46 (by decide) ?_
  rw [hgM 80 (by omega), hm1]
  refine ks_putf (T := TX0) (kf := 5) kx_948 rfl in_X0 tyX0_ok nmX0 cl_X0 (by decide) ((ks_set_ne _ _ (by omega)).trans (ks_set_same _ _ _)) (Nat.le_of_ble_eq_true rfl) rfl rfl rfl rfl dX0_read_50 rfl ?_
  obtain ⟨S3, hS3⟩ : ∃ S3 : ks_S, S3 = _ := ⟨_, rfl⟩
  refine ks_tS (S' := S3) hS3.symm ?_
  have u3 : ks_up S S3 [b, b + 1] := by rw [hS3]; exact ((ks_up_set _ (a := b) _ (by simp)).trans (ks_up_set _ (a := b + 1) _ (by simp))).trans (ks_up_set _ (a := b) _ (by simp))
  have o3 : S3.2.2 b = some (.inr (3, [.ref (b + 1), .ref (b + 2), .ref (b + 3), .ref (b + 4), .int (nI M.length), .int (nI 1), .int par, .int hei, .long wk, .int (ks_bo bad), cr])) := by rw [hS3]; exact (ks_set_same _ _ _)
  have r3 : S3.2.2 (b + 1) = some (kB 1600 (va_cpy gt g1 0 0 M.length)) := by rw [hS3]; exact ((ks_set_ne _ _ (by omega)).trans (ks_set_same _ _ _))
  generalize va_cpy gt g1 0 0 M.length = gn at *
  have X3 : bkX S3 b (nI M.length) (nI 1) par hei wk bad cr gn f2 g3 g4 := ⟨o3, r3, u3.at hX.2.2.1 (by simp), u3.at hX.2.2.2.1 (by simp), u3.at hX.2.2.2.2.1 (by simp), hg1, hX.2.2.2.2.2.2⟩
  have hh3 := hs_ok.up hh u3 (by simp; omega)
  have R3 := hR.up u3 (by simp; omega)
  have K3 := u3.st hK (by simp; omega)
  refine ks_aload_n dX0_read_53 rfl rfl ?_
  refine ks_getf (T := TX0) (kf := 5) kx_948 rfl in_X0 cl_X0 (by decide) X3.1 rfl dX0_read_54 rfl ?_
  refine ks_if_ltN (tgt := 69) (by decide) dX0_read_57 (by decide) rfl ?_
  refine ks_aload_n dX0_read_60 rfl rfl ?_
  refine ks_getf (T := TX0) (kf := 5) kx_948 rfl in_X0 cl_X0 (by decide) X3.1 rfl dX0_read_61 rfl ?_
  refine ks_bipush (x := nI 12) dX0_read_64 (by decide) rfl ?_
  refine ks_icmp_leN (tgt := 71) (by decide) (by decide) dX0_read_66 (by decide) rfl (fun _ => ?_) (fun h => absurd h (by decide))
  refine ks_bipush (x := nI 81) dX0_read_71 (by decide) rfl ?_
  refine ks_istore dX0_read_73 (by decide) rfl ?_
  refine ks_sub [(4, _), (0, _), (1, _), (2, _), (3, _)] rfl ?_
  refine ks_iconst (x := nI 0) dX0_read_75 (by decide) rfl ?_
  refine ks_istore dX0_read_76 (by decide) rfl ?_
  refine ks_sub [(5, _), (0, _), (1, _), (2, _), (3, _), (4, _)] rfl ?_
  refine ks_iload dX0_read_78 rfl rfl ?_
  refine ks_aload_n dX0_read_80 rfl rfl ?_
  refine ks_getf (T := TX0) (kf := 5) kx_948 rfl in_X0 cl_X0 (by decide) X3.1 rfl dX0_read_81 rfl ?_
  refine ks_icmp_geN (tgt := 125) (by decide) (by decide) dX0_read_84 (by decide) rfl (fun h => absurd h (by decide)) (fun _ => ?_)
  refine ks_aload_n dX0_read_87 rfl rfl ?_
  refine ks_getf (T := TX0) (kf := 1) kx_937 rfl in_X0 cl_X0 (by decide) X3.1 rfl dX0_read_88 rfl ?_
  refine ks_iload dX0_read_91 rfl rfl ?_
  refine ks_iload dX0_read_93 rfl rfl ?_
  refine ks_iastNN (i := 0) (v := 81) (by omega) X3.2.2.1 (by decide) (by decide) dX0_read_95 rfl ?_
  obtain ⟨S4, hS4⟩ : ∃ S4, S4 = ks_set S3 (b + 2) (kN 13 (va_up f2 0 81)) := ⟨_, rfl⟩
  refine ks_tS (S' := S4) hS4.symm ?_
  have w4 : ks_up S3 S4 [b + 2] := by rw [hS4]; exact ks_up_set _ _ (by simp)
  have X4 : bkX S4 b (nI M.length) (nI 1) par hei wk bad cr gn (va_up f2 0 81) g3 g4 := ⟨w4.at X3.1 (by simp), w4.at X3.2.1 (by simp), by rw [hS4]; exact ks_set_same _ _ _, w4.at X3.2.2.2.1 (by simp), w4.at X3.2.2.2.2.1 (by simp), X3.2.2.2.2.2⟩
  have hh4 := hs_ok.up hh3 w4 (by simp; omega)
  have R4 := R3.up w4 (by simp; omega)
  have K4 := w4.st K3 (by simp; omega)
  obtain ⟨vy, i1, i2, i9, xx, a1, a2, a3, a4, a5, a6, hv20, -⟩ := id R4
  refine ks_aload_n dX0_read_96 rfl rfl ?_
  refine ks_aload_n dX0_read_97 rfl rfl ?_
  refine ks_getf (T := TX0) (kf := 0) kx_935 rfl in_X0 cl_X0 (by decide) X4.1 rfl dX0_read_98 rfl ?_
  refine ks_iload dX0_read_101 rfl rfl ?_
  refine ks_aload_n dX0_read_103 rfl rfl ?_
  refine ks_getf (T := TX0) (kf := 4) kx_945 rfl in_X0 cl_X0 (by decide) X4.1 rfl dX0_read_104 rfl ?_
  refine ks_callV (n := 3) (M' := mX10_read) (c_read (d := d + 2) (y := b + 1) (N := 1600) (L := M.length) (b := 81) X4.2.1 hg1 t2 (by decide) (by omega) (by simp; omega) R4) hv20 cl_X10 rfl kx_989 kx_990 kx_991 kx_23 kx_992 (by decide +kernel) rfl (by decide) (Nat.le_of_ble_eq_true rfl) rfl dX0_read_107 rfl (fun r5 S5 h5 => ?_)
  obtain ⟨u5, h6⟩ := h5
  have et : tx_ gn 81 M.length = some (txP M 0) := by rw [tx_congr hgM]; exact tx5
  rcases h6 with ⟨h7, -⟩ | ⟨k, p, m, uu, e, h7, rfl, V5⟩
  · rw [et] at h7; cases h7
  rw [et] at h7
  have h8 := Option.some.inj h7
  have ek : (txP M 0).1 = k := by rw [h8]
  have ep : (txP M 0).2.1 = p := by rw [h8]
  have em : (txP M 0).2.2.1 = m := by rw [h8]
  have eu : (txP M 0).2.2.2.1 = uu := by rw [h8]
  have ee : e = M.length := by rw [← e5, h8]
  rw [ek, ep, em, eu, e5]
  subst ee
  have X5 := X4.up u5 (by simp; omega)
  have hh5 := hs_ok.up hh4 u5 (by simp)
  have K5 := u5.st K4 (by simp; unfold ks_B; omega)
  refine ks_istore dX0_read_110 (by decide) rfl ?_
  refine ks_sub [(4, _), (0, _), (1, _), (2, _), (3, _), (5, _)] rfl ?_
  refine ks_iload dX0_read_112 rfl rfl ?_
  refine ks_if_geN (tgt := 119) (by omega) dX0_read_114 (by decide) ?_
  refine ks_incN (c := 1) (e := 1) dX0_read_119 rfl (by decide) rfl (by decide) rfl ?_
  refine ks_sub [(5, _), (0, _), (1, _), (2, _), (3, _), (4, _)] rfl ?_
  refine ks_goto (tgt := 78) dX0_read_122 (by decide) ?_
  refine ks_iload dX0_read_78 rfl rfl ?_
  refine ks_aload_n dX0_read_80 rfl rfl ?_
  refine ks_getf (T := TX0) (kf := 5) kx_948 rfl in_X0 cl_X0 (by decide) X5.1 rfl dX0_read_81 rfl ?_
  refine ks_icmp_geN (tgt := 125) (by decide) (by decide) dX0_read_84 (by decide) rfl (fun _ => ?_) (fun h => absurd h (by decide))
  refine ks_aload_n dX0_read_125 rfl rfl ?_
  refine ks_getf (T := TX0) (kf := 1) kx_937 rfl in_X0 cl_X0 (by decide) X5.1 rfl dX0_read_126 rfl ?_
  refine ks_aload_n dX0_read_129 rfl rfl ?_
  refine ks_getf (T := TX0) (kf := 5) kx_948 rfl in_X0 cl_X0 (by decide) X5.1 rfl dX0_read_130 rfl ?_
  refine ks_iload dX0_read_133 rfl rfl ?_
  refine ks_iastNN (i := 1) (v := M.length) (by omega) X5.2.2.1 (by decide) (by decide) dX0_read_135 rfl ?_
  obtain ⟨S6, hS6⟩ : ∃ S6, S6 = ks_set S5 (b + 2) (kN 13 (va_up (va_up f2 0 81) 1 M.length)) := ⟨_, rfl⟩
  refine ks_tS (S' := S6) hS6.symm ?_
  have w6 : ks_up S5 S6 [b + 2] := by rw [hS6]; exact ks_up_set _ _ (by simp)
  have X6 : bkX S6 b (nI M.length) (nI 1) par hei wk bad cr gn (va_up (va_up f2 0 81) 1 M.length) g3 g4 := ⟨w6.at X5.1 (by simp), w6.at X5.2.1 (by simp), by rw [hS6]; exact ks_set_same _ _ _, w6.at X5.2.2.2.1 (by simp), w6.at X5.2.2.2.2.1 (by simp), X5.2.2.2.2.2⟩
  have hh6 := hs_ok.up hh5 w6 (by simp; omega)
  have V6 := V5.up w6 (by simp; omega)
  have K6 := w6.st K5 (by simp; omega)
  refine ks_iload dX0_read_136 rfl rfl ?_
  refine ks_aload_n dX0_read_138 rfl rfl ?_
  refine ks_getf (T := TX0) (kf := 4) kx_945 rfl in_X0 cl_X0 (by decide) X6.1 rfl dX0_read_139 rfl ?_
  refine ks_icmp_eqN (tgt := 147) (by omega) (by omega) dX0_read_142 (by decide) rfl (fun h10 => ?_) (fun h10 => absurd h10 (by omega))
  refine ks_aload_n dX0_read_147 rfl rfl ?_
  refine ks_aload_n dX0_read_148 rfl rfl ?_
  refine ks_getf (T := TX0) (kf := 0) kx_935 rfl in_X0 cl_X0 (by decide) X6.1 rfl dX0_read_149 rfl ?_
  refine ks_iconst (x := nI 0) dX0_read_152 (by decide) rfl ?_
  refine ks_bipush (x := nI 80) dX0_read_153 (by decide) rfl ?_
  refine ks_aload_n dX0_read_155 rfl rfl ?_
  refine ks_getf (T := TX0) (kf := 3) kx_942 rfl in_X0 cl_X0 (by decide) X6.1 rfl dX0_read_156 rfl ?_
  refine ks_iconst (x := nI 0) dX0_read_159 (by decide) rfl ?_
  refine ks_callV (n := 5) (M' := mX6_twice) (c_twice (d := d) (i := 0) (n := 80) (oa := 0) hh6 hs_neO X6.2.1 X6.2.2.2.2.2.1 (by decide) (by decide) X6.2.2.2.2.1 X6.2.2.2.2.2.2.2.1 (by decide) (by decide) K6 (by omega) (by omega) (by omega)) hh6.1 cl_X6 rfl kx_1000 kx_877 kx_878 kx_3 kx_879 (by decide +kernel) rfl (by decide) (Nat.le_of_ble_eq_true rfl) rfl dX0_read_160 rfl (fun r7 S7 h11 => ?_)
  obtain ⟨rfl, u7, hh7, ho7⟩ := h11
  have hn7 : ∀ j, j ≤ 3 → b + j ∉ ([8 + 1, 8, 10, 11, 12, b + 4] : List Nat) := fun j h1 => by simp; omega
  refine ks_iconst (x := nI 1) dX0_read_163 (by decide) rfl ?_
  refine ks_zret rfl rfl dX0_read_164 ?_
  refine ⟨rfl, ((((u3.mono ?_).trans (w4.mono ?_)).trans (u5.mono ?_)).trans (w6.mono ?_)).trans (u7.mono ?_), hh7, gn, _, _, ⟨u7.at X6.1 (hn7 0 (by decide)), u7.at X6.2.1 (hn7 1 (by decide)), u7.at X6.2.2.1 (hn7 2 (by decide)), u7.at X6.2.2.2.1 (hn7 3 (by decide)), ho7, hg1, X6.2.2.2.2.2.2.1, kO_pt (kO_twice _ _) X6.2.2.2.2.2.2.2.1 _ _, X6.2.2.2.2.2.2.2.2⟩, hgM, ?_, ?_, V6.up u7 ?_⟩
  · intro x hx; simp at hx ⊢; omega
  · intro x hx; simp at hx ⊢; omega
  · intro x hx; simp at hx ⊢; omega
  · intro x hx; simp at hx ⊢; omega
  · intro x hx; simp at hx ⊢; omega
  · intro q hq
    by_cases e0 : q = 1
    · subst e0; rw [va_up_self]; exact s1
    · rw [va_up_ne _ _ e0, show q = 0 by omega, va_up_self]; rfl
  · intro j hj
    rw [show ks_pt (twice_ (fun k => gn (0 + k)) 80) g4 0 32 j = twice_ (fun k => gn (0 + k)) 80 (j - 0) from if_pos (by omega), Nat.sub_zero]
    exact congrFun (twice_congr (fun k hk => by rw [Nat.zero_add]; exact hgM k (by omega))) j
  · simp; omega
