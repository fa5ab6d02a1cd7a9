/-! CHAIN: keepFirst -/
theorem chX.cB {S : ks_S} {n best : Nat} {cc : Int32} {tk : Int64} {B B' : Nat → Bk} (h : chX S n best cc tk B) (he : ∀ i, i < n → B i = B' i) : chX S n best cc tk B' := by
  obtain ⟨h1, ⟨bf, h2, h3⟩, h4, h5⟩ := h
  exact ⟨h1, ⟨bf, h2, fun i hi => by rw [← he i hi]; exact h3 i hi⟩, fun i hi => by rw [← he i hi]; exact h4 i hi, h5⟩
set_option maxRecDepth 100000 in
set_option maxHeartbeats 800000 in
theorem c_ch_keepFirst {l : Launch} {G : ks_G} {d : Nat} {S : ks_S} {B : Nat → Bk} {tk : Int64} {M : List Nat} {tb ta N0 : Nat} (hX : chX S 0 0 (nI 0) tk B) (hF : chF S 0 B none) (hL : coS S []) (h284 : 284 ≤ S.1) (hroom : S.1 + 10 < ks_B) (hbf : bfS S tb ta 1600 (some M)) (htb : tb < 7 ∧ ta < 7) (hh : hsO S) (hR : tvR S) (hK : ks_stOK S) (hTg : tg_ok S N0) (hbl : blk_ (mg M) M.length = true) (hm1 : mg M 80 = 1) (hwk : 2 ^ 256 / (tg_num (btB M) + 1) < 2 ^ 63) : ks_P l G yX2_keepFirst mX2_keepFirst (d + 6) [.ref 41, .ref tb] S (fun z S' => z = none ∧ ks_ex S S' [9, 8, 10, 11, 12, 20, 21, 22, 23, 24, 25, 26, 41, 42, 45, 46, 47, 50] ∧ S'.1 = S.1 + 6 ∧ S'.2.1 ≤ S.2.1 + 2440 ∧ hsO S' ∧ tvR S' ∧ (∃ N, tg_ok S' N) ∧ (∃ f, S'.2.2 50 = some (kN 580 f)) ∧ (adC (fun _ => (S.1, M, 0, 0, 2 ^ 256 / (tg_num (btB M) + 1), false, none)) 0 0 (txP M 0).2.2.1 0 []).length ≤ 180 ∧ (∃ cc, chX S' 1 0 cc tk (fun _ => (S.1, M, 0, 0, 2 ^ 256 / (tg_num (btB M) + 1), false, some (S.1 + 5, (adC (fun _ => (S.1, M, 0, 0, 2 ^ 256 / (tg_num (btB M) + 1), false, none)) 0 0 (txP M 0).2.2.1 0 []))))) ∧ chF S' 1 (fun _ => (S.1, M, 0, 0, 2 ^ 256 / (tg_num (btB M) + 1), false, some (S.1 + 5, (adC (fun _ => (S.1, M, 0, 0, 2 ^ 256 / (tg_num (btB M) + 1), false, none)) 0 0 (txP M 0).2.2.1 0 [])))) none) := by
  obtain ⟨⟨bf, h42, hb0, hbl9⟩, -⟩ := id hF
  have hO := hX.1
  have b9 := blk_b hbl
  have s64 : 64 ≤ S.1 := by omega
  have hM16 : M.length ≤ 1600 := by
    obtain ⟨len, g, -, c2, -, -, c5⟩ := id hbf
    have c6 : M.length = len := c5.1
    omega
  obtain ⟨b, hb⟩ : ∃ b, S.1 = b := ⟨_, rfl⟩
  have tx5 := bk_tx5 hbl (t := 0) (by omega)
  have k180 := (tx_bd tx5).2.1
  refine ks_of (by decide) rfl rfl (Nat.le_of_ble_eq_true rfl) ?_
  show ks_X l G mX2_keepFirst (d + 6) 0 [(0, .ref 41), (1, .ref tb)] [] S _
  refine ks_newcx (ci := 3) (x := b) (ty0 := tyX0) (fs := [.null, .null, .null, .null, .int (nI 0), .int (nI 0), .int (nI 0), .int (nI 0), .long (lN 0), .int (ks_bo false), .null]) hb kx_711 kx_930 kx_29 in_X0 tyX0_ok cl_X0 (fun j hj => by rcases j with _ | _ | _ | _ | _ | _ | _ | _ | _ | _ | _ | j <;> first | rfl | (exfalso; omega)) rfl (by omega) dX2_keepFirst_0 rfl (fun T1 q1 => ?_)
  refine ks_dup dX2_keepFirst_3 rfl rfl ?_
  refine ks_callIN (n := 0) (M' := mX0_init) (c_bk_init (d := d + 4) (b := b) q1.2.2.1 q1.1 (by omega) (by omega)) rfl rfl kx_931 kx_932 kx_29 kx_933 (by decide +kernel) rfl (by decide) (Nat.le_of_ble_eq_true rfl) rfl dX2_keepFirst_4 rfl (fun z1 T2 y1 => ?_)
  obtain ⟨rfl, y2, y3, y4, F2⟩ := y1
  have q12 : T1.2.1 = S.2.1 + 11 := q1.2.1
  have ex2 : ks_ex S T2 [] := ⟨by omega, by omega, fun a _ ha => by
    have := F2.2.2.2.2.2.2.2.2.1
    exact (y4 a (by omega)).trans (q1.2.2.2 a (by omega))⟩
  have n0 : ∀ x, x ∉ ([] : List Nat) := fun x => List.not_mem_nil
  have O2 := ex2.at hO (n0 _) (by omega)
  have c42 := ex2.at h42 (n0 _) (by omega)
  have hh2 : hsO T2 := hsO_ex hh ex2 (by decide) s64
  have R2 : tvR T2 := tvR_ex hR ex2 (by decide) s64
  have K2 : ks_stOK T2 := ex2.st hK (by decide)
  have bf2 : bfS T2 tb ta 1600 (some M) := by
    obtain ⟨len, g, c1, c2, c3, c4, c5⟩ := hbf
    exact ⟨len, g, c1, c2, ex2.at c3 (n0 _) (by omega), ex2.at c4 (n0 _) (by omega), c5⟩
  have Tg2 : tg_ok T2 N0 := by
    obtain ⟨c1, ⟨ga, c2, c3, c4⟩, ⟨gb, c5, c6⟩, ⟨gc, c7, c8⟩⟩ := hTg
    exact ⟨ex2.at c1 (n0 _) (by omega), ⟨ga, c2, ex2.at c3 (n0 _) (by omega), c4⟩, ⟨gb, c5, ex2.at c6 (n0 _) (by omega)⟩, ⟨gc, c7, ex2.at c8 (n0 _) (by omega)⟩⟩
  have C2 : ∃ f, T2.2.2 50 = some (kN 580 f) := by obtain ⟨f, c1, -⟩ := hL; exact ⟨f, ex2.at c1 (n0 _) (by omega)⟩
  obtain ⟨f50, C2⟩ := C2
  have hh7 := hh2.1
  refine ks_astore_n dX2_keepFirst_7 (by decide) rfl ?_
  refine ks_sub [(2, _), (0, _), (1, _)] rfl ?_
  refine ks_aload_n dX2_keepFirst_8 rfl rfl ?_
  refine ks_aload_n dX2_keepFirst_9 rfl rfl ?_
  refine ks_aload_n dX2_keepFirst_10 rfl rfl ?_
  refine ks_getf (T := TX2) (kf := 7) kx_741 rfl in_X2 cl_X2 (by decide) O2 rfl dX2_keepFirst_11 rfl ?_
  refine ks_aload_n dX2_keepFirst_14 rfl rfl ?_
  refine ks_getf (T := TX2) (kf := 5) kx_739 rfl in_X2 cl_X2 (by decide) O2 rfl dX2_keepFirst_15 rfl ?_
  refine ks_callV (n := 3) (M' := mX0_read) (c_bk_read1 (d := d) F2 bf2 htb hh2 R2 K2 hbl hm1) F2.1 cl_X0 rfl kx_984 kx_985 kx_986 kx_29 kx_987 (by decide +kernel) rfl (by decide) (Nat.le_of_ble_eq_true rfl) rfl dX2_keepFirst_18 rfl (fun z2 T3 y5 => ?_)
  obtain ⟨rfl, w3, hh3, g1, f2, g4, F3, eg, hst, eg4, V3⟩ := y5
  have l3 : ∀ x, x < 56 → (x = 41 ∨ x = 42 ∨ x = 44 ∨ x = 45 ∨ x = 46 ∨ x = 47 ∨ x = 50) → x ∉ [9, 8, 10, 11, 12, 20, 21, 22, 23, 24, 25, 26, b, b + 1, b + 2, b + 4] := by
    intro x h1 h3 hx
    simp only [List.mem_cons, List.not_mem_nil, or_false] at hx
    omega
  have O3 := w3.at O2 (l3 _ (by decide) (by decide))
  have d42 := w3.at c42 (l3 _ (by decide) (by decide))
  have C3 := w3.at C2 (l3 _ (by decide) (by decide))
  have Tg3 : tg_ok T3 N0 := Tg2.up w3 (l3 _ (by decide) (by decide)) (l3 _ (by decide) (by decide)) (fun h => absurd h (l3 _ (by decide) (by decide))) (fun h => absurd h (l3 _ (by decide) (by decide)))
  have K3 := w3.st K2 (fun x hx => by simp only [List.mem_cons, List.not_mem_nil, or_false] at hx; have := F2.2.2.2.2.2.2.2.2.1; unfold ks_B at *; omega)
  rw [hm1] at F3 hst
  have ef0 : f2 0 = 81 := (Option.some.inj (hst 0 (by decide))).symm
  have ef1 : f2 1 = M.length := by
    have h9 := (of_decide_eq_true hbl).2.2
    rw [hm1] at h9
    exact Option.some.inj ((hst 1 (by decide)).symm.trans h9)
  refine ks_pop dX2_keepFirst_21 rfl rfl ?_
  refine ks_aload_n dX2_keepFirst_22 rfl rfl ?_
  refine ks_aload_n dX2_keepFirst_23 rfl rfl ?_
  refine ks_getf (T := TX2) (kf := 5) kx_739 rfl in_X2 cl_X2 (by decide) O3 rfl dX2_keepFirst_24 rfl ?_
  refine ks_callV (n := 1) (M' := mX0_nameTransactions) (c_nameTx (d := d) (c := 1) F3 (by decide) (fun t ht => by rw [show t = 0 by omega, ef0, ef1]; omega) hh3 K3) F3.1 cl_X0 rfl kx_1001 kx_1002 kx_1003 kx_29 kx_1004 (by decide +kernel) rfl (by decide) (Nat.le_of_ble_eq_true rfl) rfl dX2_keepFirst_27 rfl (fun z3 T4 y6 => ?_)
  obtain ⟨rfl, w4, hh4, g3', kg3, e3', ids⟩ := y6
  have n4 : ∀ x, x < b + 3 ∨ b + 3 < x → 12 < x → x ∉ [9, 8, 10, 11, 12, b + 3] := by
    intro x h1 h2 hx
    simp only [List.mem_cons, List.not_mem_nil, or_false] at hx
    omega
  have F4 : bkX T4 b (nI M.length) (nI 1) (-1) (nI 0) (lN 0) false .null g1 f2 g3' g4 := ⟨w4.at F3.1 (n4 _ (by omega) (by omega)), w4.at F3.2.1 (n4 _ (by omega) (by omega)), w4.at F3.2.2.1 (n4 _ (by omega) (by omega)), e3', w4.at F3.2.2.2.2.1 (n4 _ (by omega) (by omega)), F3.2.2.2.2.2.1, kg3, F3.2.2.2.2.2.2.2⟩
  have O4 := w4.at O3 (n4 _ (by omega) (by decide))
  have e42 := w4.at d42 (n4 _ (by omega) (by decide))
  have C4 := w4.at C3 (n4 _ (by omega) (by decide))
  have Tg4 : tg_ok T4 N0 := Tg3.up w4 (n4 _ (by omega) (by decide)) (n4 _ (by omega) (by decide)) (fun h => absurd h (n4 _ (by omega) (by decide))) (fun h => absurd h (n4 _ (by omega) (by decide)))
  have V4 := V3.up w4 (by simp only [List.mem_cons, List.not_mem_nil, or_false]; omega)
  have hid : ∀ t, t < 1 → ∀ j, j < 32 → g3' (32 * t + j) = idB M t j := fun t ht j hj => by
    rw [ids t ht j hj, show t = 0 by omega, ef0, ef1]
    unfold idB
    rw [show bsP M 0 = 81 from rfl, show bsP M (0 + 1) = M.length by unfold bsP; rw [hst 1 (by decide), ef1]; rfl]
    exact congrFun (twice_congr (fun k hk => eg _ (by omega))) j
  have k1 := F4.2.2.2.2.2.1
  have bt32 : btB M < 2 ^ 32 := by unfold btB; rw [← bk_num (i := 72) (n := 4) eg (by omega)]; exact num4_lt k1 72
  refine ks_aload_n dX2_keepFirst_30 rfl rfl ?_
  refine ks_getf (T := TX2) (kf := 2) kx_733 rfl in_X2 cl_X2 (by decide) O4 rfl dX2_keepFirst_31 rfl ?_
  refine ks_aload_n dX2_keepFirst_34 rfl rfl ?_
  refine ks_callV (n := 0) (M' := mX0_bits) (c_bk_bits (d := d + 4) F4) F4.1 cl_X0 rfl kx_1005 kx_1006 kx_1007 kx_29 kx_1008 (by decide +kernel) rfl (by decide) (Nat.le_of_ble_eq_true rfl) rfl dX2_keepFirst_35 rfl (fun z4 T5 y7 => ?_)
  obtain ⟨rfl, hT5⟩ := y7
  obtain rfl := hT5.symm
  rw [bk_num (i := 72) (n := 4) eg (by omega), show ks_num (mg M) 72 4 = btB M from rfl]
  refine ks_callV (n := 1) (M' := mX9_take) (c_take (d := d + 4) Tg4 bt32) Tg4.1 cl_X9 rfl kx_1010 kx_917 kx_918 kx_27 kx_919 (by decide +kernel) rfl (by decide) (Nat.le_of_ble_eq_true rfl) rfl dX2_keepFirst_38 rfl (fun z5 T6 y8 => ?_)
  obtain ⟨rfl, w6, Tg6⟩ := y8
  have F6 := F4.up w6 (fun x hx => by rw [List.mem_singleton] at hx; omega)
  have O6 := w6.at O4 (by decide)
  refine ks_pop dX2_keepFirst_41 rfl rfl ?_
  refine ks_aload_n dX2_keepFirst_42 rfl rfl ?_
  refine ks_aload_n dX2_keepFirst_43 rfl rfl ?_
  refine ks_getf (T := TX2) (kf := 2) kx_733 rfl in_X2 cl_X2 (by decide) O6 rfl dX2_keepFirst_44 rfl ?_
  refine ks_callV (n := 0) (M' := mX9_work) (c_work (d := d + 4) Tg6 (tg_num_lt _) hwk) Tg6.1 cl_X9 rfl kx_1011 kx_1012 kx_1013 kx_27 kx_1014 (by decide +kernel) rfl (by decide) (Nat.le_of_ble_eq_true rfl) rfl dX2_keepFirst_47 rfl (fun z6 T7 y9 => ?_)
  obtain ⟨rfl, w7, Tg7⟩ := y9
  have l7 : ∀ x ∈ ([46, 47] : List Nat), x < 56 := by decide
  have F7 := F6.up w7 (fun x hx => by have := l7 x hx; omega)
  have O7 := w7.at O6 (by decide)
  have e42b := w7.at (w6.at e42 (by decide)) (by decide)
  refine ks_putf (T := TX0) (kf := 8) kx_956 rfl in_X0 tyX0_ok nmX0 cl_X0 (by decide) F7.1 (Nat.le_of_ble_eq_true rfl) rfl rfl rfl rfl dX2_keepFirst_50 rfl ?_
  refine ks_aload_n dX2_keepFirst_53 rfl rfl ?_
  refine ks_getf (T := TX2) (kf := 0) kx_729 rfl in_X2 cl_X2 (by decide) ((ks_set_ne _ _ (by omega)).trans O7) rfl dX2_keepFirst_54 rfl ?_
  refine ks_iconst (x := nI 0) dX2_keepFirst_57 (by decide) rfl ?_
  refine ks_aload_n dX2_keepFirst_58 rfl rfl ?_
  refine ks_aastN (i := 0) (t := 5) rfl (by decide) cl_X0 ((ks_set_ne _ _ (by omega)).trans e42b) (ks_set_same _ _ _) rfl (by decide) (by decide) dX2_keepFirst_59 rfl ?_
  refine ks_aload_n dX2_keepFirst_60 rfl rfl ?_
  refine ks_iconst (x := nI 1) dX2_keepFirst_61 (by decide) rfl ?_
  refine ks_putf (T := TX2) (kf := 3) kx_735 rfl in_X2 tyX2_ok nmX2 cl_X2 (by decide) ((ks_set_ne _ _ (by decide)).trans ((ks_set_ne _ _ (by omega)).trans O7)) (Nat.le_of_ble_eq_true rfl) rfl rfl rfl rfl dX2_keepFirst_62 rfl ?_
  obtain ⟨S8, hS8⟩ : ∃ S8 : ks_S, S8 = _ := ⟨_, rfl⟩
  refine ks_tS (S' := S8) hS8.symm ?_
  have w8 : ks_up T7 S8 [b, 42, 41] := by rw [hS8]; exact ((ks_up_set _ (a := b) _ (by simp)).trans (ks_up_set _ (a := 42) _ (by simp))).trans (ks_up_set _ (a := 41) _ (by simp))
  have n8 : ∀ x, x ≠ 41 → x ≠ 42 → x ≠ b → x ∉ [b, 42, 41] := by
    intro x h1 h2 h3 hx
    simp only [List.mem_cons, List.not_mem_nil, or_false] at hx
    omega
  have ob8 : S8.2.2 b = some (.inr (3, [.ref (b + 1), .ref (b + 2), .ref (b + 3), .ref (b + 4), .int (nI M.length), .int (nI 1), .int (-1), .int (nI 0), .long (lN (2 ^ 256 / (tg_num (btB M) + 1))), .int (ks_bo false), .null])) := by rw [hS8]; exact ((ks_set_ne _ _ (Ne.symm (by omega))).trans ((ks_set_ne _ _ (Ne.symm (by omega))).trans (ks_set_same _ _ _)))
  have o42 : S8.2.2 42 = some (.inl (5, 61, .inr (.inr (.inr (.inr (va_up bf 0 (some b))))))) := by rw [hS8]; exact ((ks_set_ne _ _ (by decide)).trans (ks_set_same _ _ _))
  have o41 : S8.2.2 41 = some (chO 1 0 (nI 0) tk) := by rw [hS8]; exact (ks_set_same _ _ _)
  have F8 : bkX S8 b (nI M.length) (nI 1) (-1) (nI 0) (lN (2 ^ 256 / (tg_num (btB M) + 1))) false .null g1 f2 g3' g4 := ⟨ob8, w8.at F7.2.1 (n8 _ (by omega) (by omega) (by omega)), w8.at F7.2.2.1 (n8 _ (by omega) (by omega) (by omega)), w8.at F7.2.2.2.1 (n8 _ (by omega) (by omega) (by omega)), w8.at F7.2.2.2.2.1 (n8 _ (by omega) (by omega) (by omega)), F7.2.2.2.2.2⟩
  obtain ⟨W0, hW0⟩ : ∃ x, 2 ^ 256 / (tg_num (btB M) + 1) = x := ⟨_, rfl⟩
  rw [hW0] at F8 ⊢
  have kb8 : bkK S8 (b, M, 0, 0, W0, false, none) := bkK.mk (q := 0) (by rw [hm1]; exact F8) hM16 eg hbl (by rw [hm1]; exact hst) (by rw [hm1]; exact hid) eg4
  have X8 : chX S8 1 0 (nI ([] : List Nat).length) tk (fun _ => (b, M, 0, 0, W0, false, none)) := ⟨o41, ⟨_, o42, fun i hi => by rw [show i = 0 by omega, va_up_self]⟩, fun i hi => kb8, by decide⟩
  have C8 : coS S8 [] := ⟨f50, w8.at (w7.at (w6.at C4 (by decide)) (by decide)) (n8 _ (by decide) (by decide) (by omega)), by decide, fun i hi => absurd hi (Nat.not_lt_zero i)⟩
  have V8 := ((V4.up w6 (by decide)).up w7 (by decide)).up w8 (by simp only [List.mem_cons, List.not_mem_nil, or_false]; omega)
  rw [hb]
  refine ks_aload_n dX2_keepFirst_65 rfl rfl ?_
  refine ks_iconst (x := nI 0) dX2_keepFirst_66 (by decide) rfl ?_
  refine ks_iconst (x := nI 0) dX2_keepFirst_67 (by decide) rfl ?_
  refine ks_callV (n := 2) (M' := mX2_addCoins) (c_ch_addCoins (d := d + 3) (b := 0) (t := 0) X8 C8 (by decide) (fun i hi => absurd hi (Nat.not_lt_zero i)) (by decide) (by show 0 < mg M 80; omega) V8 eg) o41 cl_X2 rfl kx_1024 kx_1026 kxp_14 kx_26 kx_1027 (by decide +kernel) rfl (by decide) (Nat.le_of_ble_eq_true rfl) rfl dX2_keepFirst_68 rfl (fun z7 T9 y10 => ?_)
  obtain ⟨rfl, w9, X9, C9, len9, -⟩ := y10
  have len9 : (adC (fun _ => (b, M, 0, 0, W0, false, none)) 0 0 (txP M 0).2.2.1 0 []).length ≤ 0 + (txP M 0).2.2.1 := len9
  have X9 : chX T9 1 0 (nI (adC (fun _ => (b, M, 0, 0, W0, false, none)) 0 0 (txP M 0).2.2.1 0 []).length) tk (fun _ => (b, M, 0, 0, W0, false, none)) := X9
  have C9 : coS T9 (adC (fun _ => (b, M, 0, 0, W0, false, none)) 0 0 (txP M 0).2.2.1 0 []) := C9
  obtain ⟨L, hLL⟩ : ∃ L, adC (fun _ => (b, M, 0, 0, W0, false, none)) 0 0 (txP M 0).2.2.1 0 [] = L := ⟨_, rfl⟩
  rw [hLL] at X9 C9 len9 ⊢
  obtain ⟨f9, c50, hl58, hf5⟩ := id C9
  have sz9 : T9.1 = b + 5 ∧ T9.2.1 = S.2.1 + 2040 := ⟨by rw [w9.1, w8.1, w7.1, w6.1, w4.1, w3.1]; exact y2, by rw [w9.2.1, w8.2.1, w7.2.1, w6.2.1, w4.2.1, w3.2.1]; omega⟩
  have l9 : ∀ x ∈ ([41, 50] : List Nat), x < 56 := by decide
  have F9 := F8.up w9 (fun x hx => by have := l9 x hx; omega)
  have T9' : chT T9 1 (fun _ => (b, M, 0, 0, W0, false, none)) := ⟨by omega, by omega, fun i hi => ⟨by show b + 5 ≤ T9.1; omega, fun c hc => by cases hc⟩⟩
  have S9' : chS 1 (fun _ => (b, M, 0, 0, W0, false, none)) := ⟨fun i j h1 h2 h3 => by omega, fun i j c h1 h2 h3 => by cases h3⟩
  refine ks_aload_n dX2_keepFirst_71 rfl rfl ?_
  refine ks_aload_n dX2_keepFirst_72 rfl rfl ?_
  refine ks_getf (T := TX2) (kf := 10) kx_744 rfl in_X2 cl_X2 (by decide) X9.1 rfl dX2_keepFirst_73 rfl ?_
  refine ks_aload_n dX2_keepFirst_76 rfl rfl ?_
  refine ks_getf (T := TX2) (kf := 12) kx_746 rfl in_X2 cl_X2 (by decide) X9.1 rfl dX2_keepFirst_77 rfl ?_
  refine ks_callS (n := 2) (M' := mJ7_copyOf_59c91) (c_copyOfI (d := d + 4) c50 (by decide) (by omega) (by omega) (by decide) (by omega)) kx_1044 kx_1045 kx_6 kx_1046 (by decide +kernel) rfl (by decide) (Nat.le_of_ble_eq_true rfl) rfl dX2_keepFirst_80 rfl (fun z8 T10 y11 => ?_)
  obtain ⟨rfl, hT10⟩ := y11
  have eg9 : (fun i => if i < L.length then f9 i else 0) = fun i => L.getD i 0 := by
    funext i
    by_cases e : i < L.length
    · rw [if_pos e]; exact hf5 i e
    · rw [if_neg e]; simp [List.getD, Nat.le_of_not_lt e]
  rw [eg9] at hT10
  subst hT10
  obtain ⟨g, hg⟩ : ∃ g, g = fun i => L.getD i 0 := ⟨_, rfl⟩
  rw [← hg]
  have eb : ∀ a, a < T9.1 → (ks_add T9 L.length (kN L.length g)).2.2 a = T9.2.2 a := fun a ha => ks_add_ne _ _ _ (by omega)
  have F10 : (ks_add T9 L.length (kN L.length g)).2.2 b = _ := (eb _ (by omega)).trans F9.1
  refine ks_putf (T := TX0) (kf := 10) kx_959 rfl in_X0 tyX0_ok nmX0 cl_X0 (by decide) F10 (Nat.le_of_ble_eq_true rfl) rfl rfl rfl rfl dX2_keepFirst_83 rfl ?_
  refine ks_ret rfl dX2_keepFirst_86 ?_
  have exT : ∀ e, ks_ex T9 (ks_set (ks_add T9 L.length (kN L.length g)) b e) [b] := fun e => (ks_ex_add T9 _ _ [b] (by omega)).trans (ks_up_set _ _ List.mem_cons_self).ex
  have b64 : 64 ≤ T9.1 := by omega
  have nb : ∀ x, x < 56 → x ∉ [b] := fun x h hx => by rw [List.mem_singleton] at hx; omega
  have hh9 : hsO T9 := (((hh4.up w6 (by decide)).up w7 (by decide)).up w8 (fun x hx => by simp only [List.mem_cons, List.not_mem_nil, or_false] at hx; omega)).up w9 (by decide)
  have R9 : tvR T9 := V8.raw.up w9 (by decide)
  have Tg9 : tg_ok T9 (tg_num (btB M)) := (Tg7.up w8 (n8 _ (by decide) (by decide) (by omega)) (n8 _ (by decide) (by decide) (by omega)) (fun h => absurd h (n8 _ (by decide) (by decide) (by omega))) (fun h => absurd h (n8 _ (by decide) (by decide) (by omega)))).up w9 (by decide) (by decide) (fun h => absurd h (by decide)) (fun h => absurd h (by decide))
  have fin := cn_fin T9' S9' (b := 0) (by decide) X9 (by omega) hg
  have fin2 := chX.cB (B' := fun _ => (b, M, 0, 0, W0, false, some (b + 5, L))) fin (fun i hi => by rw [show i = 0 by omega, va_up_self, sz9.1]; rfl)
  have eO : bkO (setC (b, M, 0, 0, W0, false, none) (some (T9.1, L))) = .inr (3, [.ref (b + 1), .ref (b + 2), .ref (b + 3), .ref (b + 4), .int (nI M.length), .int (nI 1), .int (nI 0 - 1), .int (nI 0), .long (lN W0), .int (ks_bo false), .ref T9.1]) := by
    show (Sum.inr (3, [.ref (b + 1), .ref (b + 2), .ref (b + 3), .ref (b + 4), .int (nI M.length), .int (nI (mg M 80)), .int (nI 0 - 1), .int (nI 0), .long (lN W0), .int (ks_bo false), .ref T9.1]) : ks_E) = _
    rw [hm1]
  rw [eO] at fin2
  refine ⟨rfl, ⟨by show S.1 ≤ T9.1 + 1; omega, by show S.2.1 ≤ T9.2.1 + L.length; omega, fun a ha h9 => ?_⟩, by show T9.1 + 1 = _; omega, by show T9.2.1 + L.length ≤ _; omega, hsO_ex hh9 (exT _) (fun x hx => by rw [List.mem_singleton] at hx; omega) b64, tvR_ex R9 (exT _) (fun x hx => by rw [List.mem_singleton] at hx; omega) b64, ⟨tg_num (btB M), ?_⟩, ⟨f9, (exT _).at c50 (nb _ (by decide)) (by omega)⟩, by omega, ⟨_, fin2⟩, ⟨⟨va_up bf 0 (some b), (exT _).at (w9.at o42 (by decide)) (nb _ (by decide)) (by omega), ?_, fun i hi => ?_⟩, fun b h => by cases h⟩⟩
  · have hBb : b + 5 < ks_B := F2.2.2.2.2.2.2.2.2.1
    simp only [List.mem_cons, List.not_mem_nil, or_false, not_or] at ha
    have m9 : a ∉ ([41, 50] : List Nat) := by simp only [List.mem_cons, List.not_mem_nil, or_false]; omega
    have m8 : a ∉ [b, 42, 41] := by simp only [List.mem_cons, List.not_mem_nil, or_false]; omega
    have m7 : a ∉ ([46, 47] : List Nat) := by simp only [List.mem_cons, List.not_mem_nil, or_false]; omega
    have m6 : a ∉ ([45] : List Nat) := by simp only [List.mem_cons, List.not_mem_nil, or_false]; omega
    have m4 : a ∉ [9, 8, 10, 11, 12, b + 3] := by simp only [List.mem_cons, List.not_mem_nil, or_false]; omega
    have m3 : a ∉ [9, 8, 10, 11, 12, 20, 21, 22, 23, 24, 25, 26, b, b + 1, b + 2, b + 4] := by simp only [List.mem_cons, List.not_mem_nil, or_false]; omega
    refine ((exT _).2.2 a (by rw [List.mem_singleton]; omega) (by omega)).trans ?_
    rw [w9.2.2 a m9, w8.2.2 a m8, w7.2.2 a m7, w6.2.2 a m6, w4.2.2 a m4, w3.2.2 a m3]
    exact ex2.2.2 a (n0 a) h9
  · obtain ⟨c1, ⟨ga, c2, c3, c4⟩, ⟨gb, c5, c6⟩, ⟨gc, c7, c8⟩⟩ := Tg9
    exact ⟨(exT _).at c1 (nb _ (by decide)) (by omega), ⟨ga, c2, (exT _).at c3 (nb _ (by decide)) (by omega), c4⟩, ⟨gb, c5, (exT _).at c6 (nb _ (by decide)) (by omega)⟩, ⟨gc, c7, (exT _).at c8 (nb _ (by decide)) (by omega)⟩⟩
  · rw [va_up_ne _ _ (by decide)]; exact hbl9 1 (by decide)
  · rw [va_up_ne _ _ (by omega)]; exact hbl9 i (by omega)
