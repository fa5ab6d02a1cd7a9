/-! BLOCK: read -/
def mg (M : List Nat) : Nat → Nat := fun j => M.getD j 0
def brP (S : ks_S) (b : Nat) (M : List Nat) (par hei : Int32) (wk : Int64) (bad : Bool) (cr : Value) (g3 : Nat → Nat) : Option Value → ks_S → Prop := fun z S' => ∃ cnt g1 f2 g4, z = some (.int (ks_bo (blk_ (mg M) M.length))) ∧ ks_up S S' [9, 8, 10, 11, 12, 20, 21, 22, 23, 24, 25, 26, b, b + 1, b + 2, b + 4] ∧ bkX S' b (nI M.length) cnt par hei wk bad cr g1 f2 g3 g4 ∧ hsO S' ∧ tvR S' ∧ (∀ j, j < M.length → g1 j = mg M j) ∧ (blk_ (mg M) M.length = true → cnt = nI (mg M 80) ∧ (∀ q, q ≤ mg M 80 → bs_ (mg M) M.length q = some (f2 q)) ∧ ∀ j, j < 32 → g4 j = twice_ (mg M) 80 j)
theorem tvR_of {S : ks_S} {y L b : Nat} {g : Nat → Nat} {z : Option Value} {S' : ks_S} (h : rdP S y g L b z S') : tvR S' := by
  rcases h.2 with ⟨-, -, h1⟩ | ⟨k, p, m, u, e, -, -, h1⟩
  · exact h1
  · exact h1.raw
set_option maxRecDepth 100000 in
set_option maxHeartbeats 2000000 in
theorem l_brEnd {l : Launch} {G : ks_G} {d : Nat} {S : ks_S} {b : Nat} {par hei : Int32} {wk : Int64} {bad : Bool} {cr : Value} {g3 : Nat → Nat} {M : List Nat} (hn : M.length ≤ 1600) {c a : Nat} (hc80 : mg M 80 = c) (hc12 : c ≤ 12) (hn80 : 80 < M.length) (ha : bs_ (mg M) M.length c = some a) (ha2 : a ≤ M.length) : ∀ (S1 : ks_S) (g1 f2 g4 : Nat → Nat), ks_up S S1 [9, 8, 10, 11, 12, 20, 21, 22, 23, 24, 25, 26, b, b + 1, b + 2, b + 4] → bkX S1 b (nI M.length) (nI c) par hei wk bad cr g1 f2 g3 g4 → hsO S1 → tvR S1 → ks_stOK S1 → (∀ j, j < M.length → g1 j = mg M j) → (∀ q, q < c → bs_ (mg M) M.length q = some (f2 q)) → ks_X l G mX0_read (d + 5) 125 [(0, .ref b), (3, .ref 7), (4, .int (nI a))] [] S1 (brP S b M par hei wk bad cr g3) := by
  intro S1 g1 f2 g4 hu hX hh hR hK hg hf
  have hbB := hX.2.2.2.2.2.2.2.2.1
  have hb56 := hX.2.2.2.2.2.2.2.2.2
  have hS2 : ks_up S1 (ks_set S1 (b + 2) (kN 13 (va_up f2 c a))) [b + 2] := ks_up_set _ _ (by simp)
  have hX2 : bkX (ks_set S1 (b + 2) (kN 13 (va_up f2 c a))) b (nI M.length) (nI c) par hei wk bad cr g1 (va_up f2 c a) g3 g4 := ⟨hS2.at hX.1 (by simp), hS2.at hX.2.1 (by simp), ks_set_same _ _ _, hS2.at hX.2.2.2.1 (by simp), hS2.at hX.2.2.2.2.1 (by simp), hX.2.2.2.2.2⟩
  have hh2 := hs_ok.up hh hS2 (by simp; omega)
  have hR2 := hR.up hS2 (by simp; omega)
  have hK2 := hS2.st hK (by simp; omega)
  have hu2 : ks_up S (ks_set S1 (b + 2) (kN 13 (va_up f2 c a))) [9, 8, 10, 11, 12, 20, 21, 22, 23, 24, 25, 26, b, b + 1, b + 2, b + 4] := hu.trans (hS2.mono (by simp))
  refine ks_aload_n dX0_read_125 rfl rfl ?_
  refine ks_getf (T := TX0) (kf := 1) kx_937 rfl in_X0 cl_X0 (by decide) hX.1 rfl dX0_read_126 rfl ?_
  refine ks_aload_n dX0_read_129 rfl rfl ?_
  refine ks_getf (T := TX0) (kf := 5) kx_948 rfl in_X0 cl_X0 (by decide) hX.1 rfl dX0_read_130 rfl ?_
  refine ks_iload dX0_read_133 rfl rfl ?_
  refine ks_iastNN (i := c) (v := a) (by omega) hX.2.2.1 (by omega) (by decide) dX0_read_135 rfl ?_
  refine ks_iload dX0_read_136 rfl rfl ?_
  refine ks_aload_n dX0_read_138 rfl rfl ?_
  refine ks_getf (T := TX0) (kf := 4) kx_945 rfl in_X0 cl_X0 (by decide) ((ks_set_ne _ _ (by omega)).trans hX.1) rfl dX0_read_139 rfl ?_
  refine ks_icmp_eqN (tgt := 147) (by omega) (by omega) dX0_read_142 (by decide) rfl (fun he => ?_) (fun he => ?_)
  · have hb1 : blk_ (mg M) M.length = true := decide_eq_true ⟨hn80, by omega, by rw [hc80, ha, he]⟩
    refine ks_aload_n dX0_read_147 rfl rfl ?_
    refine ks_aload_n dX0_read_148 rfl rfl ?_
    refine ks_getf (T := TX0) (kf := 0) kx_935 rfl in_X0 cl_X0 (by decide) hX2.1 rfl dX0_read_149 rfl ?_
    refine ks_iconst (x := nI 0) dX0_read_152 (by decide) rfl ?_
    refine ks_bipush (x := nI 80) dX0_read_153 (by decide) rfl ?_
    refine ks_aload_n dX0_read_155 rfl rfl ?_
    refine ks_getf (T := TX0) (kf := 3) kx_942 rfl in_X0 cl_X0 (by decide) hX2.1 rfl dX0_read_156 rfl ?_
    refine ks_iconst (x := nI 0) dX0_read_159 (by decide) rfl ?_
    refine ks_callV (n := 5) (M' := mX6_twice) (c_twice (d := d) (i := 0) (n := 80) (oa := 0) hh2 hs_neO hX2.2.1 hX2.2.2.2.2.2.1 (by decide) (by decide) hX2.2.2.2.2.1 hX2.2.2.2.2.2.2.2.1 (by decide) (by decide) hK2 (by omega) (by omega) (by omega)) hh2.1 cl_X6 rfl kx_1000 kx_877 kx_878 kx_3 kx_879 (by decide +kernel) rfl (by decide) (Nat.le_of_ble_eq_true rfl) rfl dX0_read_160 rfl (fun r3 S3 h3 => ?_)
    obtain ⟨rfl, hu3, hh3, ho3⟩ := h3
    have hn3 : ∀ j, j ≤ 3 → b + j ∉ ([8 + 1, 8, 10, 11, 12, b + 4] : List Nat) := fun j h1 => by simp; omega
    refine ks_iconst (x := nI 1) dX0_read_163 (by decide) rfl ?_
    refine ks_zret rfl rfl dX0_read_164 ?_
    refine ⟨nI c, g1, va_up f2 c a, _, by rw [hb1]; rfl, hu2.trans (hu3.mono (by intro x hx; simp at hx ⊢; omega)), ⟨hu3.at hX2.1 (hn3 0 (by decide)), hu3.at hX2.2.1 (hn3 1 (by decide)), hu3.at hX2.2.2.1 (hn3 2 (by decide)), hu3.at hX2.2.2.2.1 (hn3 3 (by decide)), ho3, hX2.2.2.2.2.2.1, hX2.2.2.2.2.2.2.1, kO_pt (kO_twice _ _) hX2.2.2.2.2.2.2.2.1 _ _, hX2.2.2.2.2.2.2.2.2⟩, hh3, hR2.up hu3 (by simp; omega), hg, fun _ => ⟨by rw [hc80], ?_, ?_⟩⟩
    · intro q hq
      rw [hc80] at hq
      by_cases e : q = c
      · subst e; rw [va_up_self]; exact ha
      · rw [va_up_ne _ _ e]; exact hf q (by omega)
    · intro j hj
      rw [show ks_pt (twice_ (fun k => g1 (0 + k)) 80) g4 0 32 j = twice_ (fun k => g1 (0 + k)) 80 (j - 0) from if_pos (by omega), Nat.sub_zero]
      exact congrFun (twice_congr (fun k hk => by rw [Nat.zero_add]; exact hg k (by omega))) j
  · have hb1 : blk_ (mg M) M.length = false := decide_eq_false (fun h => by
      have h2 := h.2.2
      rw [hc80, ha] at h2
      exact he (Option.some.inj h2))
    refine ks_iconst (x := nI 0) dX0_read_145 (by decide) rfl ?_
    refine ks_zret rfl rfl dX0_read_146 ?_
    exact ⟨nI c, g1, va_up f2 c a, g4, by rw [hb1]; rfl, hu2, hX2, hh2, hR2, hg, fun h => by rw [hb1] at h; cases h⟩
set_option maxRecDepth 100000 in
set_option maxHeartbeats 2000000 in
theorem l_brLoop {l : Launch} {G : ks_G} {d : Nat} {S : ks_S} {b : Nat} {par hei : Int32} {wk : Int64} {bad : Bool} {cr : Value} {g3 : Nat → Nat} {M : List Nat} (hn : M.length ≤ 1600) {c : Nat} (hc80 : mg M 80 = c) (hc12 : c ≤ 12) (hn80 : 80 < M.length) : ∀ q t, t + q = c → ∀ (S1 : ks_S) (a : Nat) (g1 f2 g4 : Nat → Nat), bs_ (mg M) M.length t = some a → a ≤ M.length → ks_up S S1 [9, 8, 10, 11, 12, 20, 21, 22, 23, 24, 25, 26, b, b + 1, b + 2, b + 4] → bkX S1 b (nI M.length) (nI c) par hei wk bad cr g1 f2 g3 g4 → hsO S1 → tvR S1 → ks_stOK S1 → (∀ j, j < M.length → g1 j = mg M j) → (∀ q, q < t → bs_ (mg M) M.length q = some (f2 q)) → ks_X l G mX0_read (d + 5) 78 [(0, .ref b), (2, .ref 20), (3, .ref 7), (4, .int (nI a)), (5, .int (nI t))] [] S1 (brP S b M par hei wk bad cr g3) := by
  intro q
  induction q with
  | zero =>
    intro t ht S1 a g1 f2 g4 ha ha2 hu hX hh hR hK hg hf
    have hbB := hX.2.2.2.2.2.2.2.2.1
    have hb56 := hX.2.2.2.2.2.2.2.2.2
    refine ks_iload dX0_read_78 rfl rfl ?_
    refine ks_aload_n dX0_read_80 rfl rfl ?_
    refine ks_getf (T := TX0) (kf := 5) kx_948 rfl in_X0 cl_X0 (by decide) hX.1 rfl dX0_read_81 rfl ?_
    refine ks_icmp_geN (tgt := 125) (by omega) (by omega) dX0_read_84 (by decide) rfl (fun hc => ?_) (fun hc => ?_)
    · refine ks_sub [(0, _), (3, _), (4, _)] rfl ?_
      obtain rfl : t = c := by omega
      exact ks_sub [(0, _), (3, _), (4, _)] rfl (l_brEnd hn hc80 hc12 hn80 ha ha2 S1 g1 f2 g4 hu hX hh hR hK hg hf)
    · exact absurd (show c ≤ t by omega) hc
  | succ q ih =>
    intro t ht S1 a g1 f2 g4 ha ha2 hu hX hh hR hK hg hf
    have hbB := hX.2.2.2.2.2.2.2.2.1
    have hb56 := hX.2.2.2.2.2.2.2.2.2
    refine ks_iload dX0_read_78 rfl rfl ?_
    refine ks_aload_n dX0_read_80 rfl rfl ?_
    refine ks_getf (T := TX0) (kf := 5) kx_948 rfl in_X0 cl_X0 (by decide) hX.1 rfl dX0_read_81 rfl ?_
    refine ks_icmp_geN (tgt := 125) (by omega) (by omega) dX0_read_84 (by decide) rfl (fun hc => ?_) (fun hc => ?_)
    · exact absurd hc (by omega)
    · have hS2 : ks_up S1 (ks_set S1 (b + 2) (kN 13 (va_up f2 t a))) [b + 2] := ks_up_set _ _ (by simp)
      have hX2 : bkX (ks_set S1 (b + 2) (kN 13 (va_up f2 t a))) b (nI M.length) (nI c) par hei wk bad cr g1 (va_up f2 t a) g3 g4 := ⟨hS2.at hX.1 (by simp), hS2.at hX.2.1 (by simp), ks_set_same _ _ _, hS2.at hX.2.2.2.1 (by simp), hS2.at hX.2.2.2.2.1 (by simp), hX.2.2.2.2.2⟩
      have hh2 := hs_ok.up hh hS2 (by simp; omega)
      have hR2 := hR.up hS2 (by simp; omega)
      have hK2 := hS2.st hK (by simp; omega)
      refine ks_aload_n dX0_read_87 rfl rfl ?_
      refine ks_getf (T := TX0) (kf := 1) kx_937 rfl in_X0 cl_X0 (by decide) hX.1 rfl dX0_read_88 rfl ?_
      refine ks_iload dX0_read_91 rfl rfl ?_
      refine ks_iload dX0_read_93 rfl rfl ?_
      refine ks_iastNN (i := t) (v := a) (by omega) hX.2.2.1 (by omega) (by decide) dX0_read_95 rfl ?_
      refine ks_aload_n dX0_read_96 rfl rfl ?_
      refine ks_aload_n dX0_read_97 rfl rfl ?_
      refine ks_getf (T := TX0) (kf := 0) kx_935 rfl in_X0 cl_X0 (by decide) ((ks_set_ne _ _ (by omega)).trans hX.1) rfl dX0_read_98 rfl ?_
      refine ks_iload dX0_read_101 rfl rfl ?_
      refine ks_aload_n dX0_read_103 rfl rfl ?_
      refine ks_getf (T := TX0) (kf := 4) kx_945 rfl in_X0 cl_X0 (by decide) ((ks_set_ne _ _ (by omega)).trans hX.1) rfl dX0_read_104 rfl ?_
      obtain ⟨vy, i1, i2, i9, xx, a1, a2, a3, a4, a5, a6, hv20, -⟩ := id hR2
      refine ks_callV (n := 3) (M' := mX10_read) (c_read (d := d + 2) (y := b + 1) (N := 1600) (L := M.length) (b := a) hX2.2.1 hX2.2.2.2.2.2.1 hn (by decide) ha2 (by simp; omega) hR2) hv20 cl_X10 rfl kx_989 kx_990 kx_991 kx_23 kx_992 (by decide +kernel) rfl (by decide) (Nat.le_of_ble_eq_true rfl) rfl dX0_read_107 rfl (fun r3 S3 h3 => ?_)
      have hR3 := tvR_of h3
      obtain ⟨hu3, h4⟩ := h3
      have hX3 := hX2.up hu3 (by simp; omega)
      have hh3 := hs_ok.up hh2 hu3 (by simp)
      have hK3 := hu3.st hK2 (by simp; unfold ks_B; omega)
      have hup : ks_up S S3 [9, 8, 10, 11, 12, 20, 21, 22, 23, 24, 25, 26, b, b + 1, b + 2, b + 4] := (hu.trans (hS2.mono (by simp))).trans (hu3.mono (by intro x hx; simp at hx ⊢; omega))
      rw [tx_congr hg] at h4
      rcases h4 with ⟨e1, rfl, -⟩ | ⟨k, p, m, u, e, e1, rfl, -⟩
      · refine ks_istore dX0_read_110 (by decide) rfl ?_
        refine ks_sub [(4, _), (0, _), (2, _), (3, _), (5, _)] rfl ?_
        refine ks_iload dX0_read_112 rfl rfl ?_
        refine ks_if_ge (tgt := 119) dX0_read_114 (by decide) rfl (fun he => ?_) (fun he => ?_)
        · exact absurd he (by decide)
        · refine ks_iconst (x := nI 0) dX0_read_117 (by decide) rfl ?_
          refine ks_zret rfl rfl dX0_read_118 ?_
          have hb1 : blk_ (mg M) M.length = false := decide_eq_false (fun h => by
            have h2 := h.2.2
            rw [hc80, bs_n ha e1 c (by omega)] at h2
            cases h2)
          exact ⟨nI c, g1, va_up f2 t a, g4, by rw [hb1]; rfl, hup, hX3, hh3, hR3, hg, fun h => by rw [hb1] at h; cases h⟩
      · have bd := tx_bd e1
        refine ks_istore dX0_read_110 (by decide) rfl ?_
        refine ks_sub [(4, _), (0, _), (2, _), (3, _), (5, _)] rfl ?_
        refine ks_iload dX0_read_112 rfl rfl ?_
        refine ks_if_geN (tgt := 119) (by omega) dX0_read_114 (by decide) ?_
        refine ks_incN (c := 1) (e := t + 1) dX0_read_119 rfl (by decide) rfl (by decide) rfl ?_
        refine ks_sub [(5, _), (0, _), (2, _), (3, _), (4, _)] rfl ?_
        refine ks_goto (tgt := 78) dX0_read_122 (by decide) ?_
        refine ks_sub [(0, _), (2, _), (3, _), (4, _), (5, _)] rfl (ih (t + 1) (by omega) S3 e g1 _ g4 (bs_s ha e1) (by omega) hup hX3 hh3 hR3 hK3 hg ?_)
        intro q2 hq2
        by_cases e9 : q2 = t
        · subst e9; rw [va_up_self]; exact ha
        · rw [va_up_ne _ _ e9]; exact hf q2 (by omega)
set_option maxRecDepth 100000 in
set_option maxHeartbeats 2000000 in
theorem c_bk_read {l : Launch} {G : ks_G} {d : Nat} {S : ks_S} {b : Nat} {len cnt par hei : Int32} {wk : Int64} {bad : Bool} {cr : Value} {g1 f2 g3 g4 : Nat → Nat} {M : List Nat} {tb ta : Nat} (hX : bkX S b len cnt par hei wk bad cr g1 f2 g3 g4) (hT : bfS S tb ta 1600 (some M)) (htb : tb < 7 ∧ ta < 7) (hh : hsO S) (hR : tvR S) (hK : ks_stOK S) : ks_P l G yX0_read mX0_read (d + 5) [.ref b, .ref tb, .ref 20, .ref 7] S (brP S b M par hei wk bad cr g3) := by
  obtain ⟨ln, gt, t1, t2, t3, t4, t5, t6⟩ := hT
  subst t5
  have hbB := hX.2.2.2.2.2.2.2.2.1
  have hb56 := hX.2.2.2.2.2.2.2.2.2
  refine ks_of (by decide) rfl rfl (Nat.le_of_ble_eq_true rfl) ?_
  show ks_X l G mX0_read (d + 5) 0 [(0, .ref b), (1, .ref tb), (2, .ref 20), (3, .ref 7)] [] S _
  refine ks_aload_n dX0_read_0 rfl rfl ?_
  refine ks_aload_n dX0_read_1 rfl rfl ?_
  refine ks_getf (T := TX1) (kf := 1) kx_58 rfl in_X1 cl_X1 (by decide) t4 rfl dX0_read_2 rfl ?_
  refine ks_putf (T := TX0) (kf := 4) kx_945 rfl in_X0 tyX0_ok nmX0 cl_X0 (by decide) hX.1 (Nat.le_of_ble_eq_true rfl) rfl rfl rfl rfl dX0_read_5 rfl ?_
  refine ks_aload_n dX0_read_8 rfl rfl ?_
  refine ks_getf (T := TX1) (kf := 0) kx_52 rfl in_X1 cl_X1 (by decide) ((ks_set_ne _ _ (by omega)).trans t4) rfl dX0_read_9 rfl ?_
  refine ks_iconst (x := nI 0) dX0_read_12 (by decide) rfl ?_
  refine ks_aload_n dX0_read_13 rfl rfl ?_
  refine ks_getf (T := TX0) (kf := 0) kx_935 rfl in_X0 cl_X0 (by decide) (ks_set_same _ _ _) rfl dX0_read_14 rfl ?_
  refine ks_iconst (x := nI 0) dX0_read_17 (by decide) rfl ?_
  refine ks_aload_n dX0_read_18 rfl rfl ?_
  refine ks_getf (T := TX0) (kf := 4) kx_945 rfl in_X0 cl_X0 (by decide) (ks_set_same _ _ _) rfl dX0_read_19 rfl ?_
  refine ks_copyB (n := M.length) (dp := 0) (sp := 0) ((ks_set_ne _ _ (by omega)).trans t3) ((ks_set_ne _ _ (by omega)).trans hX.2.1) rfl rfl rfl (by omega) (by omega) (by decide) (by decide) kx_988 kx_275 kx_274 kx_17 (by omega) (Nat.le_of_ble_eq_true rfl) dX0_read_22 rfl ?_
  have hgM : ∀ j, j < M.length → va_cpy gt g1 0 0 M.length j = mg M j := fun j hj => by
    rw [pk_cpy_in (by omega) (by omega), Nat.zero_add, Nat.sub_zero]
    exact t6 j hj
  have hg1 : kO (va_cpy gt g1 0 0 M.length) := kO_cpy t1 hX.2.2.2.2.2.1 _ _ _
  have pk : ∀ (S1 : ks_S) (cn : Int32), ks_up S S1 [b, b + 1] → S1.2.2 b = some (.inr (3, [.ref (b + 1), .ref (b + 2), .ref (b + 3), .ref (b + 4), .int (nI M.length), .int cn, .int par, .int hei, .long wk, .int (ks_bo bad), cr])) → S1.2.2 (b + 1) = some (kB 1600 (va_cpy gt g1 0 0 M.length)) → bkX S1 b (nI M.length) cn par hei wk bad cr (va_cpy gt g1 0 0 M.length) f2 g3 g4 ∧ hsO S1 ∧ tvR S1 ∧ ks_stOK S1 ∧ ks_up S S1 [9, 8, 10, 11, 12, 20, 21, 22, 23, 24, 25, 26, b, b + 1, b + 2, b + 4] := fun S1 cn u1 q1 q2 => ⟨⟨q1, q2, u1.at hX.2.2.1 (by simp), u1.at hX.2.2.2.1 (by simp), u1.at hX.2.2.2.2.1 (by simp), hg1, hX.2.2.2.2.2.2⟩, hs_ok.up hh u1 (by simp; omega), hR.up u1 (by simp; omega), u1.st hK (by simp; omega), u1.mono (by intro x hx; simp at hx ⊢; omega)⟩
  have fin0 : ∀ (S1 : ks_S) (cn : Int32), ks_up S S1 [b, b + 1] → S1.2.2 b = some (.inr (3, [.ref (b + 1), .ref (b + 2), .ref (b + 3), .ref (b + 4), .int (nI M.length), .int cn, .int par, .int hei, .long wk, .int (ks_bo bad), cr])) → S1.2.2 (b + 1) = some (kB 1600 (va_cpy gt g1 0 0 M.length)) → blk_ (mg M) M.length = false → (brP S b M par hei wk bad cr g3) (some (.int (nI 0))) S1 := by
    intro S1 cn u1 q1 q2 hb1
    obtain ⟨p1, p2, p3, p4, p5⟩ := pk S1 cn u1 q1 q2
    exact ⟨_, _, f2, g4, by rw [hb1]; rfl, p5, p1, p2, p3, hgM, fun h => by rw [hb1] at h; cases h⟩
  have fin78 : 80 < M.length → (va_cpy gt g1 0 0 M.length) 80 ≤ 12 → ∀ (S1 : ks_S), ks_up S S1 [b, b + 1] → S1.2.2 b = some (.inr (3, [.ref (b + 1), .ref (b + 2), .ref (b + 3), .ref (b + 4), .int (nI M.length), .int (nI ((va_cpy gt g1 0 0 M.length) 80)), .int par, .int hei, .long wk, .int (ks_bo bad), cr])) → S1.2.2 (b + 1) = some (kB 1600 (va_cpy gt g1 0 0 M.length)) → ks_X l G mX0_read (d + 5) 78 [(0, .ref b), (2, .ref 20), (3, .ref 7), (4, .int (nI 81)), (5, .int (nI 0))] [] S1 (brP S b M par hei wk bad cr g3) := by
    intro h80 h12 S1 u1 q1 q2
    obtain ⟨p1, p2, p3, p4, p5⟩ := pk S1 _ u1 q1 q2
    exact l_brLoop t2 (hgM 80 h80).symm h12 h80 ((va_cpy gt g1 0 0 M.length) 80) 0 (by omega) _ 81 _ f2 g4 rfl (by omega) p5 p1 p2 p3 p4 hgM (fun q hq => absurd hq (Nat.not_lt_zero q))
  refine ks_aload_n dX0_read_25 rfl rfl ?_
  refine ks_aload_n dX0_read_26 rfl rfl ?_
  refine ks_getf (T := TX0) (kf := 4) kx_945 rfl in_X0 cl_X0 (by decide) ((ks_set_ne _ _ (by omega)).trans (ks_set_same _ _ _)) rfl dX0_read_27 rfl ?_
  refine ks_bipush (x := nI 80) dX0_read_30 (by decide) rfl ?_
  refine ks_icmp_leN (tgt := 49) (by omega) (by decide) dX0_read_32 (by decide) rfl (fun hc32 => ?_) (fun hc32 => ?_)
  · refine ks_iconst (x := (-1)) dX0_read_49 (by decide) rfl ?_
    refine ks_putf (T := TX0) (kf := 5) kx_948 rfl in_X0 tyX0_ok nmX0 cl_X0 (by decide) ((ks_set_ne _ _ (by omega)).trans (ks_set_same _ _ _)) (Nat.le_of_ble_eq_true rfl) rfl rfl rfl rfl dX0_read_50 rfl ?_
    refine ks_aload_n dX0_read_53 rfl rfl ?_
    refine ks_getf (T := TX0) (kf := 5) kx_948 rfl in_X0 cl_X0 (by decide) (ks_set_same _ _ _) rfl dX0_read_54 rfl ?_
    refine ks_if_lt (tgt := 69) dX0_read_57 (by decide) rfl (fun hc57 => ?_) (fun hc57 => ?_)
    · refine ks_iconst (x := nI 0) dX0_read_69 (by decide) rfl ?_
      refine ks_zret rfl rfl dX0_read_70 ?_
      refine fin0 _ _ (((ks_up_set _ (a := b) _ (by simp)).trans (ks_up_set _ (a := b + 1) _ (by simp))).trans (ks_up_set _ (a := b) _ (by simp))) (ks_set_same _ _ _) ((ks_set_ne _ _ (by omega)).trans (ks_set_same _ _ _)) (decide_eq_false (fun h => ?_))
      have h1 := h.1
      have h2 := h.2.1
      rw [← hgM 80 h1] at h2
      omega
    · exact absurd (by decide) hc57
  · refine ks_aload_n dX0_read_35 rfl rfl ?_
    refine ks_getf (T := TX0) (kf := 0) kx_935 rfl in_X0 cl_X0 (by decide) ((ks_set_ne _ _ (by omega)).trans (ks_set_same _ _ _)) rfl dX0_read_36 rfl ?_
    refine ks_bipush (x := nI 80) dX0_read_39 (by decide) rfl ?_
    refine ks_baldB (i := 80) (ks_set_same _ _ _) rfl (by decide) (by decide) dX0_read_41 rfl ?_
    refine ks_sipush (x := nI 255) dX0_read_42 (by decide) rfl ?_
    refine ks_andB (hg1 _) dX0_read_45 rfl ?_
    have hy45 : (va_cpy gt g1 0 0 M.length) 80 < 256 := (hg1 _)
    refine ks_goto (tgt := 50) dX0_read_46 (by decide) ?_
    refine ks_putf (T := TX0) (kf := 5) kx_948 rfl in_X0 tyX0_ok nmX0 cl_X0 (by decide) ((ks_set_ne _ _ (by omega)).trans (ks_set_same _ _ _)) (Nat.le_of_ble_eq_true rfl) rfl rfl rfl rfl dX0_read_50 rfl ?_
    refine ks_aload_n dX0_read_53 rfl rfl ?_
    refine ks_getf (T := TX0) (kf := 5) kx_948 rfl in_X0 cl_X0 (by decide) (ks_set_same _ _ _) rfl dX0_read_54 rfl ?_
    refine ks_if_ltN (tgt := 69) (by omega) dX0_read_57 (by decide) rfl ?_
    refine ks_aload_n dX0_read_60 rfl rfl ?_
    refine ks_getf (T := TX0) (kf := 5) kx_948 rfl in_X0 cl_X0 (by decide) (ks_set_same _ _ _) rfl dX0_read_61 rfl ?_
    refine ks_bipush (x := nI 12) dX0_read_64 (by decide) rfl ?_
    refine ks_icmp_leN (tgt := 71) (by omega) (by decide) dX0_read_66 (by decide) rfl (fun hc66 => ?_) (fun hc66 => ?_)
    · refine ks_bipush (x := nI 81) dX0_read_71 (by decide) rfl ?_
      refine ks_istore dX0_read_73 (by decide) rfl ?_
      refine ks_sub [(4, _), (0, _), (1, _), (2, _), (3, _)] rfl ?_
      refine ks_iconst (x := nI 0) dX0_read_75 (by decide) rfl ?_
      refine ks_istore dX0_read_76 (by decide) rfl ?_
      refine ks_sub [(5, _), (0, _), (1, _), (2, _), (3, _), (4, _)] rfl ?_
      refine ks_sub [(0, _), (2, _), (3, _), (4, _), (5, _)] rfl ?_
      exact ks_sub [(0, _), (2, _), (3, _), (4, _), (5, _)] rfl (fin78 (by omega) (by omega) _ (((ks_up_set _ (a := b) _ (by simp)).trans (ks_up_set _ (a := b + 1) _ (by simp))).trans (ks_up_set _ (a := b) _ (by simp))) (ks_set_same _ _ _) ((ks_set_ne _ _ (by omega)).trans (ks_set_same _ _ _)))
    · refine ks_iconst (x := nI 0) dX0_read_69 (by decide) rfl ?_
      refine ks_zret rfl rfl dX0_read_70 ?_
      refine fin0 _ _ (((ks_up_set _ (a := b) _ (by simp)).trans (ks_up_set _ (a := b + 1) _ (by simp))).trans (ks_up_set _ (a := b) _ (by simp))) (ks_set_same _ _ _) ((ks_set_ne _ _ (by omega)).trans (ks_set_same _ _ _)) (decide_eq_false (fun h => ?_))
      have h1 := h.1
      have h2 := h.2.1
      rw [← hgM 80 h1] at h2
      omega
