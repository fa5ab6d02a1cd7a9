/-! THE JUDGE: judge, a block that is known or whose parent isn't -/
set_option maxRecDepth 100000 in
set_option maxHeartbeats 800000 in
theorem c_jd_judge3 {l : Launch} {G : ks_G} {d : Nat} {S : ks_S} {dc dp : Nat} {dt : Int64} {rs : Int32} (h0 : S.2.2 0 = some (jdO dc dp dt rs)) {n best : Nat} {cc : Int32} {tk : Int64} {B : Nat → Bk} (hX : chX S n best cc tk B) {sl : Option Nat} {T : List Nat} {N0 : Nat} {f48 gr : Nat → Nat} (hF : chF S n B sl) (hT : chT S n B) (hroom : S.1 + 10 < ks_B) (hW : chW n B) (hhei : ∀ i, i < n → bkH (B i) < 700) (hbf : bfS S 1 2 1600 (some T)) (hh : hsO S) (hR : tvR S) (hK : ks_stOK S) (hTg : tg_ok S N0) (h48 : S.2.2 48 = some (kL 11 f48)) (h49 : S.2.2 49 = some (kB 32 gr)) (hgr : kO gr) (hin : inF B n T = -1) : ks_P l G yX11_judge mX11_judge (d + 9) [.ref 0] S (fun z S' => z = some (.int (nI 3)) ∧ ∃ S2, inP S n best cc tk B sl T (some (.int (inF B n T))) S2 ∧ ks_up S2 S' [2, 1] ∧ bfS S' 1 2 1600 (some [])) := by
  have h0 : S.2.2 0 = some (.inr (14, [.ref 1, .ref 3, .ref 5, .ref 7, .ref 14, .ref 20, .ref 27, .ref 41, .ref 52, .ref 53, .ref 54, .ref 55, .int (nI dc), .int (nI dp), .long dt, .int rs])) := h0
  obtain ⟨len, g, -, -, -, e1, -⟩ := id hbf
  have hO := hX.1
  have s64 := hT.1
  refine ks_of (by decide) rfl rfl (Nat.le_of_ble_eq_true rfl) ?_
  show ks_X l G mX11_judge (d + 9) 0 [(0, .ref 0)] [] S _
  refine ks_aload_n dX11_judge_0 rfl rfl ?_
  refine ks_getf (T := TX11) (kf := 7) kx_1060 rfl in_X11 cl_X11 (by decide) h0 rfl dX11_judge_1 rfl ?_
  refine ks_aload_n dX11_judge_4 rfl rfl ?_
  refine ks_getf (T := TX11) (kf := 0) kx_1053 rfl in_X11 cl_X11 (by decide) h0 rfl dX11_judge_5 rfl ?_
  refine ks_callV (n := 1) (M' := mX2_inspect) (c_ch_inspect (d := d) hX hF hT hroom hW hhei hbf (by decide) hh hR hK hTg h48 h49 hgr) hO cl_X2 rfl kx_1427 kx_1428 kx_1429 kx_26 kx_1430 (by decide +kernel) rfl (by decide) (Nat.le_of_ble_eq_true rfl) rfl dX11_judge_8 rfl (fun z1 T1 y1 => ?_)
  have hI := y1
  obtain ⟨rfl, b, ex, hsz, X1, F1, -⟩ := y1
  obtain ⟨hb5, hsA, len2, cnt2, par2, hei2, g12, f22, g32, g42, bx⟩ := F1.2 b rfl
  have b56 := bx.2.2.2.2.2.2.2.2.2
  have nLI : ∀ x, x < 7 → x ∉ LI b := fun x hx q => by
    rcases LI_mem q with h | h | h
    · have := (by decide : ∀ x ∈ LIn, 7 < x) x h
      omega
    · omega
    · omega
  have a0 := ex.at h0 (nLI _ (by decide)) (by omega)
  have B1 := bfS_ex hbf ex (nLI _ (by decide)) (nLI _ (by decide)) (by omega) (by omega)
  obtain ⟨len3, g3, -, -, -, a1, -⟩ := id B1
  rw [hin]
  refine ks_istore_n dX11_judge_11 (by decide) rfl ?_
  refine ks_sub [(1, _), (0, _)] rfl ?_
  refine ks_aload_n dX11_judge_12 rfl rfl ?_
  refine ks_getf (T := TX11) (kf := 0) kx_1053 rfl in_X11 cl_X11 (by decide) a0 rfl dX11_judge_13 rfl ?_
  refine ks_callV (n := 0) (M' := mX1_clear) (bf_clear (d := d + 8) B1) a1 cl_X1 rfl kx_842 kx_843 kx_844 kx_2 kx_845 (by decide +kernel) rfl (by decide) (Nat.le_of_ble_eq_true rfl) rfl dX11_judge_16 rfl (fun z2 T2 y2 => ?_)
  obtain ⟨rfl, w2, B2⟩ := y2
  refine ks_iload_n dX11_judge_19 rfl rfl ?_
  refine ks_iconst (x := (-1)) dX11_judge_20 (by decide) rfl ?_
  refine ks_icmp_ne (tgt := 26) dX11_judge_21 (by decide) rfl (fun h => absurd rfl h) (fun _ => ?_)
  refine ks_iconst (x := nI 3) dX11_judge_24 (by decide) rfl ?_
  refine ks_iret rfl dX11_judge_25 ?_
  exact ⟨rfl, T1, hin ▸ hI, w2, B2⟩
set_option maxRecDepth 100000 in
set_option maxHeartbeats 800000 in
theorem c_jd_judge4 {l : Launch} {G : ks_G} {d : Nat} {S : ks_S} {dc dp : Nat} {dt : Int64} {rs : Int32} (h0 : S.2.2 0 = some (jdO dc dp dt rs)) {n best : Nat} {cc : Int32} {tk : Int64} {B : Nat → Bk} (hX : chX S n best cc tk B) {sl : Option Nat} {T : List Nat} {N0 : Nat} {f48 gr : Nat → Nat} (hF : chF S n B sl) (hT : chT S n B) (hroom : S.1 + 10 < ks_B) (hW : chW n B) (hhei : ∀ i, i < n → bkH (B i) < 700) (hbf : bfS S 1 2 1600 (some T)) (hh : hsO S) (hR : tvR S) (hK : ks_stOK S) (hTg : tg_ok S N0) (h48 : S.2.2 48 = some (kL 11 f48)) (h49 : S.2.2 49 = some (kB 32 gr)) (hgr : kO gr) (hin : inF B n T = -2) : ks_P l G yX11_judge mX11_judge (d + 9) [.ref 0] S (fun z S' => z = some (.int (nI 4)) ∧ ∃ S2, inP S n best cc tk B sl T (some (.int (inF B n T))) S2 ∧ ks_up S2 S' [2, 1] ∧ bfS S' 1 2 1600 (some [])) := by
  have h0 : S.2.2 0 = some (.inr (14, [.ref 1, .ref 3, .ref 5, .ref 7, .ref 14, .ref 20, .ref 27, .ref 41, .ref 52, .ref 53, .ref 54, .ref 55, .int (nI dc), .int (nI dp), .long dt, .int rs])) := h0
  obtain ⟨len, g, -, -, -, e1, -⟩ := id hbf
  have hO := hX.1
  have s64 := hT.1
  refine ks_of (by decide) rfl rfl (Nat.le_of_ble_eq_true rfl) ?_
  show ks_X l G mX11_judge (d + 9) 0 [(0, .ref 0)] [] S _
  refine ks_aload_n dX11_judge_0 rfl rfl ?_
  refine ks_getf (T := TX11) (kf := 7) kx_1060 rfl in_X11 cl_X11 (by decide) h0 rfl dX11_judge_1 rfl ?_
  refine ks_aload_n dX11_judge_4 rfl rfl ?_
  refine ks_getf (T := TX11) (kf := 0) kx_1053 rfl in_X11 cl_X11 (by decide) h0 rfl dX11_judge_5 rfl ?_
  refine ks_callV (n := 1) (M' := mX2_inspect) (c_ch_inspect (d := d) hX hF hT hroom hW hhei hbf (by decide) hh hR hK hTg h48 h49 hgr) hO cl_X2 rfl kx_1427 kx_1428 kx_1429 kx_26 kx_1430 (by decide +kernel) rfl (by decide) (Nat.le_of_ble_eq_true rfl) rfl dX11_judge_8 rfl (fun z1 T1 y1 => ?_)
  have hI := y1
  obtain ⟨rfl, b, ex, hsz, X1, F1, -⟩ := y1
  obtain ⟨hb5, hsA, len2, cnt2, par2, hei2, g12, f22, g32, g42, bx⟩ := F1.2 b rfl
  have b56 := bx.2.2.2.2.2.2.2.2.2
  have nLI : ∀ x, x < 7 → x ∉ LI b := fun x hx q => by
    rcases LI_mem q with h | h | h
    · have := (by decide : ∀ x ∈ LIn, 7 < x) x h
      omega
    · omega
    · omega
  have a0 := ex.at h0 (nLI _ (by decide)) (by omega)
  have B1 := bfS_ex hbf ex (nLI _ (by decide)) (nLI _ (by decide)) (by omega) (by omega)
  obtain ⟨len3, g3, -, -, -, a1, -⟩ := id B1
  rw [hin]
  refine ks_istore_n dX11_judge_11 (by decide) rfl ?_
  refine ks_sub [(1, _), (0, _)] rfl ?_
  refine ks_aload_n dX11_judge_12 rfl rfl ?_
  refine ks_getf (T := TX11) (kf := 0) kx_1053 rfl in_X11 cl_X11 (by decide) a0 rfl dX11_judge_13 rfl ?_
  refine ks_callV (n := 0) (M' := mX1_clear) (bf_clear (d := d + 8) B1) a1 cl_X1 rfl kx_842 kx_843 kx_844 kx_2 kx_845 (by decide +kernel) rfl (by decide) (Nat.le_of_ble_eq_true rfl) rfl dX11_judge_16 rfl (fun z2 T2 y2 => ?_)
  obtain ⟨rfl, w2, B2⟩ := y2
  refine ks_iload_n dX11_judge_19 rfl rfl ?_
  refine ks_iconst (x := (-1)) dX11_judge_20 (by decide) rfl ?_
  refine ks_icmp_ne (tgt := 26) dX11_judge_21 (by decide) rfl (fun _ => ?_) (fun h => absurd h (by decide))
  refine ks_iload_n dX11_judge_26 rfl rfl ?_
  refine ks_bipush (x := (-2)) dX11_judge_27 (by decide) rfl ?_
  refine ks_icmp_ne (tgt := 34) dX11_judge_29 (by decide) rfl (fun h => absurd rfl h) (fun _ => ?_)
  refine ks_iconst (x := nI 4) dX11_judge_32 (by decide) rfl ?_
  refine ks_iret rfl dX11_judge_33 ?_
  exact ⟨rfl, T1, hin ▸ hI, w2, B2⟩
