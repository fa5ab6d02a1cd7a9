/-! THE JUDGE: judge, a block that leads: coins along the path -/
def jgR (B : Nat → Bk) (n : Nat) (T : List Nat) (b r : Nat) : (Nat → Bk) × Nat × Nat := cnA (va_up B n (kpK B n T b)) r (clL (va_up B n (kpK B n T b)) 60 (n + 1)).reverse
abbrev LJg (n b : Nat) (B1 : Nat → Bk) : List Nat := [2, 1, 43, 45, 46, 47, b] ++ (LCn ++ nmL (n + 1) B1)
/-- the state behind judging a kept block that leads -/
def jgO (S0 S' : ks_S) (n bst b : Nat) (B1 Bf : Nat → Bk) : Prop := ks_ex S0 S' (LJg n b B1) ∧ (S'.1 ≤ S0.1 + 60 ∧ S'.2.1 ≤ S0.2.1 + 24000) ∧ bfS S' 1 2 1600 (some []) ∧ (∃ cc tk, chX S' (n + 1) bst cc tk Bf) ∧ chF S' (n + 1) Bf none ∧ (∃ N, tg_ok S' N) ∧ mcZ S' ∧ tvR S' ∧ chT S' (n + 1) Bf ∧ chS (n + 1) Bf ∧ chW (n + 1) Bf ∧ chC (n + 1) Bf ∧ chV (n + 1) Bf ∧ (∃ f, S'.2.2 43 = some (kN 60 f)) ∧ (∃ f, S'.2.2 50 = some (kN 580 f)) ∧ (∃ f, S'.2.2 51 = some (kN 40 f))
theorem jgO.best {S0 S' : ks_S} {n bst b : Nat} {B1 Bf : Nat → Bk} {cc : Int32} {tk : Int64} (h : jgO S0 S' n bst b B1 Bf) (hX : chX S' (n + 1) bst cc tk Bf) (b2 : Nat) : jgO S0 (ks_set S' 41 (.inr (5, [.ref 42, .ref 43, .ref 44, .int (nI (n + 1)), .int (nI b2), .ref 7, .ref 27, .ref 20, .ref 48, .ref 49, .ref 50, .ref 51, .int cc, .long tk]))) n b2 b B1 Bf := by
  obtain ⟨h1, h2, h3, -, h5, ⟨N, h6⟩, h7, h8, h9, h10, h11, h12, h13, ⟨f1, h14⟩, ⟨f2, h15⟩, ⟨f3, h16⟩⟩ := h
  have hu : ks_up S' (ks_set S' 41 (.inr (5, [.ref 42, .ref 43, .ref 44, .int (nI (n + 1)), .int (nI b2), .ref 7, .ref 27, .ref 20, .ref 48, .ref 49, .ref 50, .ref 51, .int cc, .long tk]))) [41] := ks_up_set _ _ (List.mem_singleton.mpr rfl)
  refine ⟨h1.trans (hu.ex.mono (fun x hx => ?_)), h2, h3.up hu (by decide) (by decide), ⟨cc, tk, hX.best b2⟩, h5.ag (hu.2.2 _ (by decide)), ⟨N, h6.ag (fun a g1 g2 => hu.2.2 _ (fun q => by rw [List.mem_singleton] at q; omega))⟩, h7.up hu (by decide), tvR_ex h8 hu.ex (by decide) h9.1, h9.up hu, h10, h11, h12, h13, ⟨f1, hu.at h14 (by decide)⟩, ⟨f2, hu.at h15 (by decide)⟩, ⟨f3, hu.at h16 (by decide)⟩⟩
  rw [List.mem_singleton.mp hx]
  exact List.mem_append_right _ (List.mem_append_left _ (by decide))
theorem jgI.fin {S0 T4 S1 : ks_S} {n bst b N : Nat} {B1 Bc : Nat → Bk} {Pt : List Nat} {u q : Nat} {fp : Nat → Nat} (h : jgI T4 S1 (n + 1) bst B1 Bc Pt u q) (ex : ks_ex S0 T4 (LJg n b B1)) (hz : T4.1 = S0.1 ∧ T4.2.1 = S0.2.1) (hl : Pt.length ≤ 60) (hT : 64 ≤ T4.1) (hB : bfS T4 1 2 1600 (some [])) (hF : chF T4 (n + 1) B1 none) (hTg : tg_ok T4 N) (h43 : T4.2.2 43 = some (kN 60 fp)) (h56 : ∀ x ∈ nmL (n + 1) B1, 56 ≤ x) : jgO S0 S1 n bst b B1 Bc := by
  obtain ⟨h1, h2, h3, h4, h5, h6, h7, h8, h9, h10, -, -, h13, -, -, h16, h17⟩ := h
  have nL : ∀ x, x < 7 ∨ (41 < x ∧ x < 50) → x ∉ LCn ++ nmL (n + 1) B1 := fun x hx q => by
    rcases List.mem_append.mp q with h | h
    · have := (by decide : ∀ x ∈ LCn, 7 < x ∧ (x ≤ 41 ∨ 50 ≤ x)) x h
      omega
    · have := h56 x h
      omega
  have g : ∀ x, x < 7 ∨ (41 < x ∧ x < 50) → S1.2.2 x = T4.2.2 x := fun x hx => h13.2.2 x (nL x hx) (Or.inl (by omega))
  exact ⟨ex.trans (h13.mono (fun x hx => List.mem_append_right _ hx)), ⟨by omega, by omega⟩, hB.ag (g _ (by decide)) (g _ (by decide)), h1, hF.ag (g _ (by decide)), ⟨N, hTg.ag (fun a g1 g2 => g _ (by omega))⟩, h7, h8, h3, h2, h4, h5, h6, ⟨fp, (g _ (by decide)).trans h43⟩, h9, h10⟩
theorem nmL_congr {n : Nat} {B B' : Nat → Bk} (h : ∀ i, bkN (B' i) = bkN (B i)) : nmL n B' = nmL n B := by
  unfold nmL
  exact List.map_congr_left (fun i _ => h i)
theorem jgO.spoil {S0 S1 S2 : ks_S} {n bst b : Nat} {B1 Bc : Nat → Bk} {D : Nat → Bool} {cc : Int32} {tk : Int64} (h : jgO S0 S1 n bst b B1 Bc) (hu : ks_up S1 S2 (nmL (n + 1) B1)) (hX : chX S2 (n + 1) bst cc tk (fun i => bD (Bc i) (D i))) (h56 : ∀ x ∈ nmL (n + 1) B1, 56 ≤ x) : jgO S0 S2 n bst b B1 (fun i => bD (Bc i) (D i)) := by
  obtain ⟨h1, h2, h3, -, h5, ⟨N, h6⟩, h7, h8, h9, h10, h11, h12, h13, ⟨f1, h14⟩, ⟨f2, h15⟩, ⟨f3, h16⟩⟩ := h
  have nL : ∀ x, x < 56 → x ∉ nmL (n + 1) B1 := fun x hx q => by have := h56 x q; omega
  refine ⟨h1.trans (hu.ex.mono (fun x hx => List.mem_append_right _ (List.mem_append_right _ hx))), by rw [hu.1, hu.2.1]; exact h2, h3.up hu (nL _ (by decide)) (nL _ (by decide)), ⟨cc, tk, hX⟩, h5.ag (hu.2.2 _ (nL _ (by decide))), ⟨N, h6.ag (fun a g1 g2 => hu.2.2 _ (nL _ (by omega)))⟩, h7.up hu (fun x hx => Or.inr (by have := h56 x hx; omega)), tvR_ex h8 hu.ex (fun x hx => Or.inr (by have := h56 x hx; omega)) h9.1, h9.up hu, h10, h11, h12, h13, ⟨f1, hu.at h14 (nL _ (by decide))⟩, ⟨f2, hu.at h15 (nL _ (by decide))⟩, ⟨f3, hu.at h16 (nL _ (by decide))⟩⟩
set_option maxRecDepth 100000 in
set_option maxHeartbeats 1600000 in
theorem c_jd_judge0 {l : Launch} {G : ks_G} {d : Nat} {S : ks_S} {dc dp : Nat} {dt : Int64} {rs : Int32} (h0 : S.2.2 0 = some (jdO dc dp dt rs)) {n best : Nat} {cc : Int32} {tk : Int64} {B : Nat → Bk} (hX : chX S n best cc tk B) {sl : Option Nat} {T : List Nat} {N0 : Nat} {f48 gr : Nat → Nat} (hF : chF S n B sl) (hT : chT S n B) (hroom : S.1 + 100 < ks_B) (hW : chW n B) (hbf : bfS S 1 2 1600 (some T)) (hh : hsO S) (hR : tvR S) (hK : ks_stOK S) (hTg : tg_ok S N0) (h48 : S.2.2 48 = some (kL 11 f48)) (h49 : S.2.2 49 = some (kB 32 gr)) (hgr : kO gr) {f43 f50 f51 : Nat → Nat} (hma : mathOK) (hS : chS n B) (hC : chC n B) (hV : chV n B) (hZ : mcZ S) (h43 : S.2.2 43 = some (kN 60 f43)) (h50 : S.2.2 50 = some (kN 580 f50)) (h51 : S.2.2 51 = some (kN 40 f51)) (h00 : bkC (B 0) ≠ none) (hn0 : 0 < n) (hhn : bkH (B (inQ B n T - 1)) + 1 < 700) (hin : inF B n T = nI 0) (hn : n < 60) (hbe : best < n) (hwk : 2 ^ 256 / (tg_num (btB T) + 1) < 2 ^ 63) (hwb : bkW (B best) < 2 ^ 63) (hwn : (bkW (B (inQ B n T - 1)) + 2 ^ 256 / (tg_num (btB T) + 1)) < 2 ^ 63) (hgt : bkW (B best) < (bkW (B (inQ B n T - 1)) + 2 ^ 256 / (tg_num (btB T) + 1))) (hok : ∀ b r, (jgR B n T b r).2.1 = 0) : ks_P l G yX11_judge mX11_judge (d + 9) [.ref 0] S (fun z S' => ∃ b S2, inP S n best cc tk B sl T (some (.int (nI 0))) S2 ∧ (sl = some b ∨ (sl = none ∧ b = S.1)) ∧ z = some (.int (nI (if inQ B n T = best + 1 then 0 else 2))) ∧ jgO S2 S' n n b (va_up B n (kpK B n T b)) (jgR B n T b S2.1).1) := by
  have h0 : S.2.2 0 = some (.inr (14, [.ref 1, .ref 3, .ref 5, .ref 7, .ref 14, .ref 20, .ref 27, .ref 41, .ref 52, .ref 53, .ref 54, .ref 55, .int (nI dc), .int (nI dp), .long dt, .int rs])) := h0
  obtain ⟨len, g, -, -, -, e1, -⟩ := id hbf
  have hO := hX.1
  have s64 := hT.1
  have hhei : ∀ i, i < n → bkH (B i) < 700 := fun i hi => (hV i hi).1
  refine ks_of (by decide) rfl rfl (Nat.le_of_ble_eq_true rfl) ?_
  show ks_X l G mX11_judge (d + 9) 0 [(0, .ref 0)] [] S _
  refine ks_aload_n dX11_judge_0 rfl rfl ?_
  refine ks_getf (T := TX11) (kf := 7) kx_1060 rfl in_X11 cl_X11 (by decide) h0 rfl dX11_judge_1 rfl ?_
  refine ks_aload_n dX11_judge_4 rfl rfl ?_
  refine ks_getf (T := TX11) (kf := 0) kx_1053 rfl in_X11 cl_X11 (by decide) h0 rfl dX11_judge_5 rfl ?_
  refine ks_callV (n := 1) (M' := mX2_inspect) (c_ch_inspect (d := d) hX hF hT (by omega) hW hhei hbf (by decide) hh hR hK hTg h48 h49 hgr) hO cl_X2 rfl kx_1427 kx_1428 kx_1429 kx_26 kx_1430 (by decide +kernel) rfl (by decide) (Nat.le_of_ble_eq_true rfl) rfl dX11_judge_8 rfl (fun z1 T1 y1 => ?_)
  have hI := y1
  obtain ⟨rfl, b, ex, hsz, X1, F1, hsl, hh1, R1, ⟨N1, Tg1⟩, -, -, hK1⟩ := y1
  obtain ⟨hq0, hqn, K1⟩ := hK1 hin
  obtain ⟨hb5, hsA, len2, cnt2, par2, hei2, g12, f22, g32, g42, bx⟩ := F1.2 b rfl
  have b56 := bx.2.2.2.2.2.2.2.2.2
  have nLI : ∀ x, x < 7 ∨ x = 43 ∨ x = 50 ∨ x = 51 → x ∉ LI b := fun x hx q => by
    rcases LI_mem q with h | h | h
    · have := (by decide : ∀ x ∈ LIn, 7 < x ∧ x ≠ 43 ∧ x ≠ 50 ∧ x ≠ 51) x h
      omega
    · omega
    · omega
  have a0 := ex.at h0 (nLI _ (by decide)) (by omega)
  have c43 := ex.at h43 (nLI _ (by decide)) (by omega)
  have c50 := ex.at h50 (nLI _ (by decide)) (by omega)
  have c51 := ex.at h51 (nLI _ (by decide)) (by omega)
  have Z1 := mcZ_ex hZ ex hh1 (fun x hx => by
    rcases LI_mem hx with h | h | h
    · have := (by decide : ∀ x ∈ LIn, x < 14 ∨ (20 ≤ x ∧ x ≤ 26) ∨ 40 < x) x h
      omega
    · omega
    · omega) s64
  have st1 := ex.st hK (fun x hx => by
    rcases LI_mem hx with h | h | h
    · have := (by decide : ∀ x ∈ LIn, x < 64) x h
      omega
    · omega
    · omega)
  have B1 := bfS_ex hbf ex (nLI _ (by decide)) (nLI _ (by decide)) (by omega) (by omega)
  obtain ⟨len3, g3, -, -, -, a1, -⟩ := id B1
  rw [hin]
  rw [hin] at hI
  refine ks_istore_n dX11_judge_11 (by decide) rfl ?_
  refine ks_sub [(1, _), (0, _)] rfl ?_
  refine ks_aload_n dX11_judge_12 rfl rfl ?_
  refine ks_getf (T := TX11) (kf := 0) kx_1053 rfl in_X11 cl_X11 (by decide) a0 rfl dX11_judge_13 rfl ?_
  refine ks_callV (n := 0) (M' := mX1_clear) (bf_clear (d := d + 8) B1) a1 cl_X1 rfl kx_842 kx_843 kx_844 kx_2 kx_845 (by decide +kernel) rfl (by decide) (Nat.le_of_ble_eq_true rfl) rfl dX11_judge_16 rfl (fun z2 T2 y2 => ?_)
  obtain ⟨rfl, w2, B2⟩ := y2
  have X2 := X1.up w2 (by decide)
  have F2 := F1.up w2 (by decide)
  have K2 := K1.up w2 (by decide)
  have Tg2 := Tg1.up w2 (by decide) (by decide) (fun h => absurd h (by decide)) (fun h => absurd h (by decide))
  have T2' : chT T2 n B := (hT.ex ex (by omega)).up w2
  have sT1 : 64 ≤ T1.1 := by have := ex.1; omega
  have sT2 : 64 ≤ T2.1 := by rw [w2.1]; exact sT1
  have hh2 := hsO_ex hh1 w2.ex (by decide) sT1
  have Z2 := mcZ_ex Z1 w2.ex hh2 (by decide) sT1
  have R2 := tvR_ex R1 w2.ex (by decide) sT1
  have c43b := w2.at c43 (by decide)
  have c50b := w2.at c50 (by decide)
  have c51b := w2.at c51 (by decide)
  have st2 := w2.ex.st st1 (by decide)
  have a02 := w2.at a0 (by decide)
  have O2 := X2.1
  refine ks_iload_n dX11_judge_19 rfl rfl ?_
  refine ks_iconst (x := (-1)) dX11_judge_20 (by decide) rfl ?_
  refine ks_icmp_ne (tgt := 26) dX11_judge_21 (by decide) rfl (fun _ => ?_) (fun h => absurd h (by decide))
  refine ks_iload_n dX11_judge_26 rfl rfl ?_
  refine ks_bipush (x := (-2)) dX11_judge_27 (by decide) rfl ?_
  refine ks_icmp_ne (tgt := 34) dX11_judge_29 (by decide) rfl (fun _ => ?_) (fun h => absurd h (by decide))
  refine ks_iload_n dX11_judge_34 rfl rfl ?_
  refine ks_if_eqN (tgt := 51) (by decide) dX11_judge_35 (by decide) rfl (fun _ => ?_) (fun h => absurd h (by decide))
  refine ks_aload_n dX11_judge_51 rfl rfl ?_
  refine ks_getf (T := TX11) (kf := 7) kx_1060 rfl in_X11 cl_X11 (by decide) a02 rfl dX11_judge_52 rfl ?_
  refine ks_getf (T := TX2) (kf := 3) kx_736 rfl in_X2 cl_X2 (by decide) O2 rfl dX11_judge_55 rfl ?_
  refine ks_bipush (x := nI 60) dX11_judge_58 (by decide) rfl ?_
  refine ks_icmp_neN (tgt := 71) (by omega) (by decide) dX11_judge_60 (by decide) rfl (fun h4 => ?_) (fun h4 => absurd h4 (by omega))
  refine ks_aload_n dX11_judge_71 rfl rfl ?_
  refine ks_getf (T := TX11) (kf := 7) kx_1060 rfl in_X11 cl_X11 (by decide) a02 rfl dX11_judge_72 rfl ?_
  refine ks_callV (n := 0) (M' := mX2_keep) (c_ch_keep (d := d + 6) X2 hn F2 K2 ⟨hq0, hqn⟩ T2' Tg2 hwk) O2 cl_X2 rfl kx_1515 kx_1516 kx_1517 kx_26 kx_1518 (by decide +kernel) rfl (by decide) (Nat.le_of_ble_eq_true rfl) rfl dX11_judge_75 rfl (fun z3 T3 y3 => ?_)
  obtain ⟨rfl, w3, X3, F3, N3, Tg3⟩ := y3
  have X3 : chX T3 (n + 1) best cc tk (va_up B n (kpK B n T b)) := X3
  have F3 : chF T3 (n + 1) (va_up B n (kpK B n T b)) none := F3
  have n3 : ∀ x, x < 41 ∨ x = 43 ∨ x = 50 ∨ x = 51 → x ∉ [45, 46, 47, 41, b] := by
    intro x h1 hx
    simp only [List.mem_cons, List.not_mem_nil, or_false] at hx
    omega
  have a03 := w3.at a02 (n3 _ (by decide))
  have c43c := w3.at c43b (n3 _ (by decide))
  have c50c := w3.at c50b (n3 _ (by decide))
  have c51c := w3.at c51b (n3 _ (by decide))
  have B3 := B2.up w3 (n3 _ (by decide)) (n3 _ (by decide))
  have L3 : ∀ x, x ∈ [45, 46, 47, 41, b] → 40 < x ∧ x < ks_B := by
    intro x hx
    simp only [List.mem_cons, List.not_mem_nil, or_false] at hx
    have := T2'.2.1
    have := hsz.1
    unfold ks_B at *
    have := w2.1
    omega
  have sT3 : 64 ≤ T3.1 := by rw [w3.1]; exact sT2
  have hh3 := hsO_ex hh2 w3.ex (fun x hx => by have := L3 x hx; omega) sT2
  have Z3 := mcZ_ex Z2 w3.ex hh3 (fun x hx => by have := L3 x hx; omega) sT2
  have R3 := tvR_ex R2 w3.ex (fun x hx => by have := L3 x hx; omega) sT2
  have st3 := w3.ex.st st2 (fun x hx => (L3 x hx).2)
  have T3' : chT T3 (n + 1) (va_up B n (kpK B n T b)) := (T2'.up w3).keep (k := kpK B n T b) (by rw [w3.1, w2.1]; exact hb5) rfl
  have S3' : chS (n + 1) (va_up B n (kpK B n T b)) := hS.keep (k := kpK B n T b) hsA rfl
  have W3' : chW (n + 1) (va_up B n (kpK B n T b)) := hW.keep (k := kpK B n T b) hn0 ⟨hq0, hqn⟩
  have C3' : chC (n + 1) (va_up B n (kpK B n T b)) := hC.keep (k := kpK B n T b) rfl
  have V3' : chV (n + 1) (va_up B n (kpK B n T b)) := hV.keep (k := kpK B n T b) ⟨hhn, inF_0 hin⟩
  obtain ⟨O3, ⟨bf3, h423, hbf3⟩, hB3, -⟩ := id X3
  have kn : va_up B n (kpK B n T b) n = kpK B n T b := va_up_self _ _ _
  have kb : va_up B n (kpK B n T b) best = B best := va_up_ne _ _ (by omega)
  have k0 : va_up B n (kpK B n T b) 0 = B 0 := va_up_ne _ _ (by omega)
  have bfn : bf3 n = some b := by rw [hbf3 n (by omega), kn]; rfl
  have bfb : bf3 best = some (bkN (B best)) := by rw [hbf3 best (by omega), kb]
  have on : ∃ g1 f2 g3 g4, bkX T3 b (nI T.length) (nI (mg T 80)) (nI (inQ B n T) - 1) (nI (bkH (B (inQ B n T - 1)) + 1)) (lN (bkW (B (inQ B n T - 1)) + 2 ^ 256 / (tg_num (btB T) + 1))) false .null g1 f2 g3 g4 := by
    have h9 := hB3 n (by omega)
    rw [kn] at h9
    obtain ⟨g1, f2, g3, g4, q, -⟩ := h9
    exact ⟨g1, f2, g3, g4, q⟩
  obtain ⟨gn1, fn2, gn3, gn4, on⟩ := on
  have h9b := hB3 best (by omega)
  rw [kb] at h9b
  obtain ⟨gb1, fb2, gb3, gb4, obb, -⟩ := h9b
  refine ks_istore_n dX11_judge_78 (by decide) rfl ?_
  refine ks_sub [(2, _), (0, _), (1, _)] rfl ?_
  refine ks_aload_n dX11_judge_79 rfl rfl ?_
  refine ks_getf (T := TX11) (kf := 7) kx_1060 rfl in_X11 cl_X11 (by decide) a03 rfl dX11_judge_80 rfl ?_
  refine ks_getf (T := TX2) (kf := 0) kx_730 rfl in_X2 cl_X2 (by decide) O3 rfl dX11_judge_83 rfl ?_
  refine ks_iload_n dX11_judge_86 rfl rfl ?_
  refine ks_aaldN (i := n) (b := b) (by decide) h423 rfl (by omega) (by decide) bfn dX11_judge_87 rfl ?_
  refine ks_getf (T := TX0) (kf := 8) kx_957 rfl in_X0 cl_X0 (by decide) on.1 rfl dX11_judge_88 rfl ?_
  refine ks_aload_n dX11_judge_91 rfl rfl ?_
  refine ks_getf (T := TX11) (kf := 7) kx_1060 rfl in_X11 cl_X11 (by decide) a03 rfl dX11_judge_92 rfl ?_
  refine ks_getf (T := TX2) (kf := 0) kx_730 rfl in_X2 cl_X2 (by decide) O3 rfl dX11_judge_95 rfl ?_
  refine ks_aload_n dX11_judge_98 rfl rfl ?_
  refine ks_getf (T := TX11) (kf := 7) kx_1060 rfl in_X11 cl_X11 (by decide) a03 rfl dX11_judge_99 rfl ?_
  refine ks_getf (T := TX2) (kf := 4) kx_737 rfl in_X2 cl_X2 (by decide) O3 rfl dX11_judge_102 rfl ?_
  refine ks_aaldN (i := best) (b := (bkN (B best))) (by decide) h423 rfl (by omega) (by decide) bfb dX11_judge_105 rfl ?_
  refine ks_getf (T := TX0) (kf := 8) kx_957 rfl in_X0 cl_X0 (by decide) obb.1 rfl dX11_judge_106 rfl ?_
  refine ks_lif_gtN (tgt := 115) (by omega) (by omega) dX11_judge_109 rfl dX11_judge_110 (by decide) rfl (fun h5 => ?_) (fun h5 => absurd h5 (by omega))
  refine ks_aload_n dX11_judge_115 rfl rfl ?_
  refine ks_getf (T := TX11) (kf := 7) kx_1060 rfl in_X11 cl_X11 (by decide) a03 rfl dX11_judge_116 rfl ?_
  refine ks_iload_n dX11_judge_119 rfl rfl ?_
  obtain ⟨B1', hB1⟩ : ∃ B1', B1' = va_up B n (kpK B n T b) := ⟨_, rfl⟩
  rw [← hB1] at X3 F3 T3' S3' W3' C3' V3' hbf3 hB3 kn kb k0
  refine ks_callV (n := 1) (M' := mX2_climb) (c_ch_climb (d := d + 8) X3 W3' (by omega : n < n + 1) c43c) O3 cl_X2 rfl kx_1519 kx_1520 kx_1521 kx_26 kx_1522 (by decide +kernel) rfl (by decide) (Nat.le_of_ble_eq_true rfl) rfl dX11_judge_120 rfl (fun z4 T4 y4 => ?_)
  obtain ⟨rfl, w4, fp, h43d, hfp⟩ := y4
  obtain ⟨Pt, hPt⟩ : ∃ Pt, clL B1' 60 (n + 1) = Pt := ⟨_, rfl⟩
  rw [hPt] at hfp ⊢
  obtain ⟨q0, cq, q0n, hcq, hcqO, -⟩ := cl_cq W3' (by rw [k0]; exact h00) (u := 60) (k := n + 1) (by omega) (by omega) (by omega)
  rw [hPt] at hcqO
  have pl60 : Pt.length ≤ 60 := by rw [← hPt]; exact clL_len
  have rm4 : T4.1 + Pt.length < ks_B := by rw [w4.1, w3.1, w2.1]; have := hsz.1; omega
  have a04 := w4.at a03 (by decide)
  have J0 : jgI T4 T4 (n + 1) best B1' B1' Pt Pt.length q0 := ⟨⟨cc, tk, X3.up w4 (by decide)⟩, S3', T3'.up w4, W3', C3', V3', Z3.up w4 (by decide), tvR_ex R3 w4.ex (by decide) sT3, ⟨_, w4.at c50c (by decide)⟩, ⟨_, w4.at c51c (by decide)⟩, w4.ex.st st3 (by decide), fun i => ⟨rfl, rfl, rfl, rfl, rfl, rfl⟩, ⟨Nat.le_refl _, Nat.le_refl _, fun a _ _ => rfl⟩, ⟨q0n, cq, hcq⟩, by rw [List.take_length]; exact hcqO, Nat.le_refl _, Nat.le_refl _⟩
  have nLJ : ∀ x, x < 7 ∨ x = 43 → x ∉ LCn ++ nmL (n + 1) B1' := fun x hx q => by
    rcases List.mem_append.mp q with h | h
    · have := (by decide : ∀ x ∈ LCn, 13 < x ∨ x = 8 ∨ x = 9 ∨ x = 10 ∨ x = 11) x h
      have := (by decide : ∀ x ∈ LCn, x ≠ 43) x h
      omega
    · unfold nmL at h
      obtain ⟨i, hi, rfl⟩ := List.mem_map.mp h
      obtain ⟨y1, y2, y3, y4, y5, -⟩ := hB3 i (List.mem_range.mp hi)
      have := y5.2.2.2.2.2.2.2.2.2
      omega
  refine ks_iconst (x := nI 1) dX11_judge_123 (by decide) rfl ?_
  refine ks_subD dX11_judge_124 rfl ?_
  refine ks_istore_n dX11_judge_125 (by decide) rfl ?_
  refine ks_sub [(3, _), (0, _), (1, _), (2, _)] rfl ?_
  obtain ⟨RR, hRR⟩ : ∃ RR, jgR B n T b T1.1 = RR := ⟨_, rfl⟩
  have e41 : T4.1 = T1.1 := by rw [w4.1, w3.1, w2.1]
  have exA : ks_ex T1 T4 (LJg n b B1') := by
    refine ((w2.ex.mono ?_).trans (w3.ex.mono ?_)).trans (w4.ex.mono ?_)
    · intro x hx; refine List.mem_append_left _ ?_; simp only [List.mem_cons, List.not_mem_nil, or_false] at hx ⊢; omega
    · intro x hx
      simp only [List.mem_cons, List.not_mem_nil, or_false] at hx
      by_cases e : x = 41
      · subst e; exact List.mem_append_right _ (List.mem_append_left _ (by decide))
      · refine List.mem_append_left _ ?_; simp only [List.mem_cons, List.not_mem_nil, or_false]; omega
    · intro x hx; refine List.mem_append_left _ ?_; simp only [List.mem_cons, List.not_mem_nil, or_false] at hx ⊢; omega
  have h56 : ∀ x ∈ nmL (n + 1) B1', 56 ≤ x := fun x hx => by
    unfold nmL at hx
    obtain ⟨i, hi, rfl⟩ := List.mem_map.mp hx
    obtain ⟨y1, y2, y3, y4, y5, -⟩ := hB3 i (List.mem_range.mp hi)
    exact y5.2.2.2.2.2.2.2.2.2
  have B4 := B3.up w4 (by decide) (by decide)
  have F4 := F3.ag (B' := B1') (w4.2.2 42 (by decide))
  have Tg4 := Tg3.ag (fun a g1 g2 => w4.2.2 a (by simp only [List.mem_cons, List.not_mem_nil, or_false]; omega))
  have z41 : T4.1 = T1.1 ∧ T4.2.1 = T1.2.1 := ⟨e41, by rw [w4.2.1, w3.2.1, w2.2.1]⟩
  have sT4 : 64 ≤ T4.1 := by rw [w4.1]; exact sT3
  have hR0 : RR.2.1 = 0 := by rw [← hRR]; exact hok _ _
  have loop : ∀ (u : Nat) (S1 : ks_S) (Bc : Nat → Bk) (q : Nat), u ≤ Pt.length → jgI T4 S1 (n + 1) best B1' Bc Pt u q → cnA Bc S1.1 (Pt.take u).reverse = RR → ks_X l G mX11_judge (d + 9) 126 [(0, .ref 0), (2, .int (nI n)), (3, .int (nI u - 1))] [] S1 (fun z S' => ∃ b S2, inP S n best cc tk B sl T (some (.int (nI 0))) S2 ∧ (sl = some b ∨ (sl = none ∧ b = S.1)) ∧ z = some (.int (nI (if inQ B n T = best + 1 then 0 else 2))) ∧ jgO S2 S' n n b (va_up B n (kpK B n T b)) (jgR B n T b S2.1).1) := by
    intro u
    induction u with
    | zero =>
      intro S1 Bc q hu hJ hr
      have J := hJ
      have hr : (Bc, 0, 0) = RR := hr
      have Of := J.fin exA z41 pl60 sT4 B4 F4 Tg4 h43d h56
      obtain ⟨⟨cc1, tk1, Xc⟩, Sc, Tc, Wc, Cc, Vc, Zc, Rc, h50c, h51c, stc, eqc, exc, -, -, sz1, sz2⟩ := hJ
      have e0 := exc.at a04 (nLJ _ (by decide)) (by omega)
      have Oc := Xc.1
      obtain ⟨-, ⟨bfc, h42c, hbfc⟩, hBc, -⟩ := id Xc
      obtain ⟨gn1', fn2', gn3', gn4', on', -⟩ := hBc n (by omega)
      rw [(eqc n).2.1, (eqc n).2.2.1, kn, show bkN (kpK B n T b) = b from rfl, show bkP (kpK B n T b) = inQ B n T from rfl, nI_D hq0] at on'
      have bfn' : bfc n = some b := by rw [hbfc n (by omega), (eqc n).2.1, kn]; rfl
      refine ks_iload_n dX11_judge_126 rfl rfl ?_
      refine ks_if_ltD (tgt := 189) (by omega) dX11_judge_127 (by decide) rfl (fun h6 => ?_) (fun h6 => absurd h6 (by omega))
      refine ks_aload_n dX11_judge_189 rfl rfl ?_
      refine ks_getf (T := TX11) (kf := 7) kx_1060 rfl in_X11 cl_X11 (by decide) e0 rfl dX11_judge_190 rfl ?_
      refine ks_getf (T := TX2) (kf := 4) kx_737 rfl in_X2 cl_X2 (by decide) Oc rfl dX11_judge_193 rfl ?_
      refine ks_istore_n dX11_judge_196 (by decide) rfl ?_
      refine ks_sub [(3, _), (0, _), (2, _)] rfl ?_
      refine ks_aload_n dX11_judge_197 rfl rfl ?_
      refine ks_getf (T := TX11) (kf := 7) kx_1060 rfl in_X11 cl_X11 (by decide) e0 rfl dX11_judge_198 rfl ?_
      refine ks_iload_n dX11_judge_201 rfl rfl ?_
      refine ks_putf (T := TX2) (kf := 4) kx_737 rfl in_X2 tyX2_ok nmX2 cl_X2 (by decide) Oc (Nat.le_of_ble_eq_true rfl) rfl rfl rfl rfl dX11_judge_202 rfl ?_
      refine ks_aload_n dX11_judge_205 rfl rfl ?_
      refine ks_getf (T := TX11) (kf := 7) kx_1060 rfl in_X11 cl_X11 (by decide) ((ks_set_ne _ _ (by decide)).trans e0) rfl dX11_judge_206 rfl ?_
      refine ks_getf (T := TX2) (kf := 0) kx_730 rfl in_X2 cl_X2 (by decide) (ks_set_same _ _ _) rfl dX11_judge_209 rfl ?_
      refine ks_iload_n dX11_judge_212 rfl rfl ?_
      refine ks_aaldN (i := n) (b := b) (by decide) ((ks_set_ne _ _ (by decide)).trans h42c) rfl (by omega) (by decide) bfn' dX11_judge_213 rfl ?_
      refine ks_getf (T := TX0) (kf := 6) kx_953 rfl in_X0 cl_X0 (by decide) ((ks_set_ne _ _ (by omega)).trans on'.1) rfl dX11_judge_214 rfl ?_
      refine ks_iload_n dX11_judge_217 rfl rfl ?_
      refine ks_icmp_neN (tgt := 225) (by omega) (by omega) dX11_judge_218 (by decide) rfl (fun h7 => ?_) (fun h7 => ?_)
      · refine ks_iconst (x := nI 2) dX11_judge_225 (by decide) rfl ?_
        refine ks_iret rfl dX11_judge_226 ?_
        refine ⟨b, T1, hI, hsl, by rw [if_neg (by omega)], ?_⟩
        rw [hRR, ← hr, ← hB1]
        exact Of.best Xc n
      · refine ks_iconst (x := nI 0) dX11_judge_221 (by decide) rfl ?_
        refine ks_goto (tgt := 226) dX11_judge_222 (by decide) ?_
        refine ks_iret rfl dX11_judge_226 ?_
        refine ⟨b, T1, hI, hsl, by rw [if_pos (by omega)], ?_⟩
        rw [hRR, ← hr, ← hB1]
        exact Of.best Xc n
    | succ u ih =>
      intro S1 Bc q hu hJ hr
      have J := hJ
      obtain ⟨⟨cc1, tk1, Xc⟩, Sc, Tc, Wc, Cc, Vc, Zc, Rc, ⟨f50c, e50⟩, ⟨f51c, e51⟩, stc, eqc, exc, ⟨qn, ⟨rq, Lq⟩, hq⟩, hQ, -, -⟩ := hJ
      rw [take_rev (by omega)] at hQ hr
      obtain ⟨b1, b2, b3, b4, -⟩ := hQ
      have e0 := exc.at a04 (nLJ _ (by decide)) (by have := (T3'.up w4).1; omega)
      have e43 := exc.at h43d (nLJ _ (by decide)) (by have := (T3'.up w4).1; omega)
      have Oc := Xc.1
      have fpu : fp u = Pt.getD u 0 := hfp u (by omega)
      have ecn : cnC Bc (Pt.getD u 0) = Lq := by unfold cnC; rw [b2, Nat.add_sub_cancel, hq]
      rw [nI_D (by omega : 0 < u + 1), Nat.add_sub_cancel]
      refine ks_iload_n dX11_judge_126 rfl rfl ?_
      refine ks_if_ltN (tgt := 189) (by omega) dX11_judge_127 (by decide) rfl ?_
      refine ks_aload_n dX11_judge_130 rfl rfl ?_
      refine ks_getf (T := TX11) (kf := 7) kx_1060 rfl in_X11 cl_X11 (by decide) e0 rfl dX11_judge_131 rfl ?_
      refine ks_aload_n dX11_judge_134 rfl rfl ?_
      refine ks_getf (T := TX11) (kf := 7) kx_1060 rfl in_X11 cl_X11 (by decide) e0 rfl dX11_judge_135 rfl ?_
      refine ks_getf (T := TX2) (kf := 1) kx_732 rfl in_X2 cl_X2 (by decide) Oc rfl dX11_judge_138 rfl ?_
      refine ks_iload_n dX11_judge_141 rfl rfl ?_
      refine ks_ialdN (i := u) e43 rfl (by omega) (by decide) dX11_judge_142 rfl ?_
      rw [fpu]
      refine ks_callV (n := 1) (M' := mX2_connect) (c_ch_connect (d := d) Xc hma stc Sc Tc b1 b2 qn hq (Cc q _ qn hq) (fun b t hb ht => (Vc b hb).2.2 t ht) Zc Rc e50 e51 (fun i hi => (Vc i hi).1) (Vc _ b1).2.1 b3) Oc cl_X2 rfl kx_1523 kx_1524 kx_1525 kx_26 kx_1526 (by decide +kernel) rfl (by decide) (Nat.le_of_ble_eq_true rfl) rfl dX11_judge_143 rfl (fun z5 T5 y5 => ?_)
      rw [show cnF Bc (bkM (Bc (Pt.getD u 0))) (Pt.getD u 0) (bkH (Bc (Pt.getD u 0))) (mg (bkM (Bc (Pt.getD u 0))) 80) 0 Lq 0 = cnO Bc (Pt.getD u 0) from by unfold cnO; rw [ecn]] at y5
      obtain ⟨rfl, ex5, sz5, Z5, R5, h505, h515, hbad, hgood⟩ := y5
      unfold cnA at hr
      have hle := cnO_le (B := Bc) (b := Pt.getD u 0)
      refine ks_istore dX11_judge_146 (by decide) rfl ?_
      refine ks_sub [(4, _), (0, _), (2, _), (3, _)] rfl ?_
      refine ks_iload dX11_judge_148 rfl rfl ?_
      refine ks_if_eqN (tgt := 183) (by omega) dX11_judge_150 (by decide) rfl (fun h7 => ?_) (fun h7 => ?_)
      · rw [if_pos h7] at hr
        obtain ⟨g1, g2, g3, cc5, tk5, X5⟩ := hgood h7
        have J5 := J.step (by omega) rm4 ex5 ⟨g1, sz5.2⟩ Z5 R5 h505 h515 g3 X5
        refine ks_incD dX11_judge_183 rfl (by decide) (by decide) rfl ?_
        refine ks_sub [(3, _), (0, _), (2, _), (4, _)] rfl ?_
        refine ks_goto (tgt := 126) dX11_judge_186 (by decide) ?_
        exact ks_sub [(0, _), (2, _), (3, _)] rfl (ih T5 _ _ (by omega) J5 (by rw [g1]; exact hr))
      · rw [if_neg h7] at hr
        rw [← hr] at hR0
        exact absurd hR0 h7
  exact ks_sub [(0, _), (2, _), (3, _)] rfl (loop Pt.length T4 B1' q0 (Nat.le_refl _) J0 (by rw [List.take_length, ← hRR, e41, ← hPt, hB1]; rfl))
