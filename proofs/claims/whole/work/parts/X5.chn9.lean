/-! THE REFERENCE: chain and judge, with the shape of the row of the path -/
set_option maxRecDepth 100000 in
set_option maxHeartbeats 1600000 in
theorem l_rcRun9 {l : Launch} {G : ks_G} {d : Nat} {S : ks_S} {V : Nat → Value} {F n : Nat} {B : Nat → Bk} {Gp : Pt} {Q : List Nat → Prop} (hQ : ∀ B', eqB B B' → ∀ b, b < n → cnQ B' b Q) (hh9 : ∀ i, i < n → bkH (B i) < 700) (hva : ∀ b t, b < n → t < mg (bkM (B b)) 80 → vaM (bkM (B b)) t ≤ 2100000000000000) (hc0 : ∀ b, b < n → 0 < mg (bkM (B b)) 80) (hW : chW n B) (hD : rbD n B) {last : Nat} {f : Nat → Nat} (hl : last < n) (h565 : ∀ i, i < n → 565 ≤ bkN (B i)) (hn61 : n ≤ 61) (v47 : V 47 = .int (nI n)) (hf : ∀ j, j < (upL B n (last + 1)).length → f j = (upL B n (last + 1)).getD j 0) : ∀ (u : Nat) (S1 : ks_S) (V1 : Nat → Value) (F1 : Nat) (B1 : Nat → Bk) (R1 : List Nat), u ≤ (upL B n (last + 1)).length → rchK n B S S1 V V1 F F1 → S1.2.2 360 = some (kN 61 f) → rcnS S1 V1 F1 n B1 Gp R1 → eqB B B1 → Q R1 → R1.length ≤ 400 → rchF Gp n (upL B n (last + 1)).reverse B [] = rchF Gp n ((upL B n (last + 1)).take u).reverse B1 R1 → ks_X l G mX16_chain (d + 14) 40 [(0, .ref 290), (3, .int (nI u - 1))] [] S1 (fun z S' => z = some (.int (nI (rchF Gp n (upL B n (last + 1)).reverse B []).1)) ∧ ∃ V' F' R', (rchK n B S S' V V' F F' ∧ ∃ f9, S'.2.2 360 = some (kN 61 f9)) ∧ rcnS S' V' F' n (rchF Gp n (upL B n (last + 1)).reverse B []).2.2 Gp R' ∧ ((rchF Gp n (upL B n (last + 1)).reverse B []).1 = 0 → R' = (rchF Gp n (upL B n (last + 1)).reverse B []).2.1)) := by
  have lP := upL_len B n (last + 1)
  intro u
  induction u with
  | zero =>
    intro S1 V1 F1 B1 R1 hul K1 e360 C1 hE hQR hR4 er
    refine ks_iload_n dX16_chain_40 rfl rfl ?_
    refine ks_if_ltD (tgt := 123) (by omega) dX16_chain_41 (by decide) rfl (fun h1 => ?_) (fun h1 => ?_)
    · refine ks_iconst (x := nI 0) dX16_chain_123 (by decide) rfl ?_
      refine ks_iret rfl dX16_chain_124 ?_
      have er2 : rchF Gp n (upL B n (last + 1)).reverse B [] = (0, R1, B1) := er
      rw [er2]
      exact ⟨rfl, V1, F1, R1, ⟨K1, f, e360⟩, C1, fun _ => rfl⟩
    · exact absurd rfl h1
  | succ u ih =>
    intro S1 V1 F1 B1 R1 hul K1 e360 C1 hE hQR hR4 er
    refine ks_iload_n dX16_chain_40 rfl rfl ?_
    refine ks_if_ltD (tgt := 123) (by omega) dX16_chain_41 (by decide) rfl (fun h1 => ?_) (fun h1 => ?_)
    · exact absurd h1 (Nat.succ_ne_zero _)
    · rw [nI_pred]
      have hu1 : u < (upL B n (last + 1)).length := by omega
      have hfu := hf u hu1
      have hbm := getD_mem hu1
      obtain ⟨b, eb⟩ : ∃ b, b = (upL B n (last + 1)).getD u 0 := ⟨_, rfl⟩
      rw [← eb] at hfu hbm
      have hb : b < n := upL_mem hW n (last + 1) (by omega) b hbm
      have etk : ((upL B n (last + 1)).take (u + 1)).reverse = b :: ((upL B n (last + 1)).take u).reverse := by
        rw [List.take_add_one, List.reverse_append, eb, List.getD_eq_getElem?_getD, List.getElem?_eq_getElem hu1]
        rfl
      rw [etk] at er
      obtain ⟨o1, -, rb1, -⟩ := id C1
      refine ks_aload_n dX16_chain_44 rfl rfl ?_
      refine ks_aload_n dX16_chain_45 rfl rfl ?_
      refine ks_getf (T := TX16) (kf := 64) kx_2432 rfl in_X16 cl_X16 (by decide) o1 rfl dX16_chain_46 rfl ?_
      refine ks_iload_n dX16_chain_49 rfl rfl ?_
      refine ks_ialdN (i := u) e360 rfl (by omega) (by decide) dX16_chain_50 rfl ?_
      rw [hfu]
      obtain ⟨q1, q2, q3⟩ := hQ B1 hE b hb
      have eMb := (hE b).2.1
      refine ks_callV (n := 1) (M' := mX16_connect) (c_md_connect (d := d) (hE.D hD) hb (fun i hi => by rw [(hE i).2.2.2.1]; exact hh9 i hi) (fun t ht => by rw [eMb] at ht ⊢; exact hva b t hb ht) (by rw [eMb]; exact hc0 b hb) q1 q2 q3 C1 hQR hR4) o1 cl_X16 rfl kx_2118 kx_2120 kxp_77 kx_30 kx_2121 (by decide +kernel) rfl (by decide) (Nat.le_of_ble_eq_true rfl) rfl dX16_chain_51 rfl (fun z2 S2 y2 => ?_)
      obtain ⟨rc, erc⟩ : ∃ r, r = rcF Gp (bkC (B1 b)).isSome B1 (bkM (B1 b)) b (bkH (B1 b)) (mg (bkM (B1 b)) 80) 0 R1 0 := ⟨_, rfl⟩
      rw [← erc] at y2
      obtain ⟨rfl, V2, F2, R2, ⟨sf2, hv2⟩, hc⟩ := y2
      rw [rchF, ← erc] at er
      have K2 : rchK n B S1 S2 V1 V2 F1 F2 := ⟨sf2.mono (fun a ha => by
        rcases List.mem_cons.mp ha with h | h
        · rw [h, (hE b).1]; exact List.mem_cons_of_mem _ (List.mem_append_left _ (nmL_mem hb))
        · exact List.mem_cons_of_mem _ (List.mem_append_right _ h)), hv2⟩
      have f360 := sf2.at e360 (fun hm => by
        rcases List.mem_cons.mp hm with h | h
        · have := h565 b hb; rw [(hE b).1] at h; omega
        · exact absurd h (by decide))
      rcases hc with ⟨h0, C2⟩ | ⟨h0, hR2, C2⟩
      · rw [if_neg h0] at er
        rw [er]
        obtain ⟨c9, ec9⟩ : ∃ c, c = rc.1 := ⟨_, rfl⟩
        rw [← ec9] at h0 ⊢
        obtain ⟨o2, -, rb2, -⟩ := id C2
        have c9b : c9 < 2 ^ 20 := by rw [ec9, erc]; exact Nat.lt_of_le_of_lt rcF_le (by decide)
        refine ks_istore dX16_chain_54 (by decide) rfl ?_
        refine ks_sub [(4, _), (0, _), (3, _)] rfl ?_
        refine ks_iload dX16_chain_56 rfl rfl ?_
        refine ks_if_neN (tgt := 64) (by omega) dX16_chain_58 (by decide) rfl (fun h3 => ?_) (fun h3 => ?_)
        · refine ks_aload_n dX16_chain_64 rfl rfl ?_
          refine ks_getf (T := TX16) (kf := 64) kx_2432 rfl in_X16 cl_X16 (by decide) o2 rfl dX16_chain_65 rfl ?_
          refine ks_iload_n dX16_chain_68 rfl rfl ?_
          refine ks_ialdN (i := u) f360 rfl (by omega) (by decide) dX16_chain_69 rfl ?_
          rw [hfu]
          refine ks_istore dX16_chain_70 (by decide) rfl ?_
          refine ks_sub [(5, _), (0, _), (3, _), (4, _)] rfl ?_
          refine ks_sub [(0, _), (3, _), (4, _), (5, _)] rfl ?_
          refine l_rcBad (B := B) (B0 := B1) (x := b) (f := f) hb (hE.W hW) (hE.D hD) (by omega) hfu (fun S3 u3 C3 => ?_) f360 ((hv2 47 (by decide)).trans ((K1.2 47 (by decide)).trans v47)) hn61 (fun i hi => by rw [(hE i).1]; exact h565 i hi) (n - b) b S2 B1 (by omega) (ks_up.rf _ _) C2 (eqB.rf _) rfl
          have K3 : rchK n B S2 S3 V2 V2 F2 F2 := ⟨(sfK.of u3).mono (fun a ha => by
            obtain ⟨i, h1, h2⟩ := List.mem_map.mp ha
            rw [← h2, (hE i).1]
            exact List.mem_cons_of_mem _ (List.mem_append_left _ (nmL_mem (List.mem_range.mp h1)))), fun _ _ => rfl⟩
          exact ⟨rfl, V2, F2, R2, ⟨(K1.trans K2).trans K3, f, u3.at f360 (fun hm => by
            obtain ⟨i, h1, h2⟩ := List.mem_map.mp hm
            have := h565 i (List.mem_range.mp h1)
            rw [(hE i).1] at h2
            omega)⟩, C3, fun h => absurd h h0⟩
        · exact absurd h3 h0
      · rw [if_pos h0] at er
        have hq2 := rcF_Q (Gp := Gp) (ck := (bkC (B1 b)).isSome) ⟨q1, q2, q3⟩ (mg (bkM (B1 b)) 80) 0 R1 0 rc.2 (by omega) hQR hR4 (by rw [← erc, ← h0])
        rw [h0, hR2] at *
        obtain ⟨o2, -, -, -⟩ := id C2
        refine ks_istore dX16_chain_54 (by decide) rfl ?_
        refine ks_sub [(4, _), (0, _), (3, _)] rfl ?_
        refine ks_iload dX16_chain_56 rfl rfl ?_
        refine ks_if_neN (tgt := 64) (by decide) dX16_chain_58 (by decide) rfl (fun h3 => ?_) (fun h3 => ?_)
        · exact absurd h3 (by decide)
        · refine ks_goto (tgt := 117) dX16_chain_61 (by decide) ?_
          refine ks_incD dX16_chain_117 rfl (by decide) (by decide) rfl ?_
          refine ks_sub [(3, _), (0, _), (4, _)] rfl ?_
          refine ks_goto (tgt := 40) dX16_chain_120 (by decide) ?_
          exact ks_sub [(0, _), (3, _)] rfl (ih S2 V2 F2 (ckB B1 b) rc.2 (by omega) (K1.trans K2) f360 C2 (hE.trans (eqB.ck B1 b)) hq2.1 hq2.2 er)
set_option maxRecDepth 100000 in
set_option maxHeartbeats 800000 in
theorem c_md_chain9 {l : Launch} {G : ks_G} {d : Nat} {S : ks_S} {V : Nat → Value} {F n : Nat} {B : Nat → Bk} {Gp : Pt} {Q : List Nat → Prop} (hQ : ∀ B', eqB B B' → ∀ b, b < n → cnQ B' b Q) (hh9 : ∀ i, i < n → bkH (B i) < 700) (hva : ∀ b t, b < n → t < mg (bkM (B b)) 80 → vaM (bkM (B b)) t ≤ 2100000000000000) (hc0 : ∀ b, b < n → 0 < mg (bkM (B b)) 80) (hW : chW n B) (hD : rbD n B) {last : Nat} {f : Nat → Nat} {R : List Nat} (hl : last < n) (hI : rcnS S V F n B Gp R) (h360 : S.2.2 360 = some (kN 61 f)) (v47 : V 47 = .int (nI n)) (hQ0 : Q []) : ks_P l G yX16_chain mX16_chain (d + 14) [.ref 290, .int (nI last)] S (fun z S' => z = some (.int (nI (rchF Gp n (upL B n (last + 1)).reverse B []).1)) ∧ ∃ V' F' R', (rchK n B S S' V V' F F' ∧ ∃ f9, S'.2.2 360 = some (kN 61 f9)) ∧ rcnS S' V' F' n (rchF Gp n (upL B n (last + 1)).reverse B []).2.2 Gp R' ∧ ((rchF Gp n (upL B n (last + 1)).reverse B []).1 = 0 → R' = (rchF Gp n (upL B n (last + 1)).reverse B []).2.1)) := by
  obtain ⟨o0, mb0, rb0, ⟨f3, e343, hf3⟩, v52, hRl, hm⟩ := id hI
  have h565 : ∀ i, i < n → 565 ≤ bkN (B i) := fun i hi => (rb0.2.1 i hi).2.2.2.2.1
  refine ks_of (by decide) rfl rfl (Nat.le_of_ble_eq_true rfl) ?_
  show ks_X l G mX16_chain (d + 14) 0 [(0, .ref 290), (1, .int (nI last))] [] S _
  refine ks_iconst (x := nI 0) dX16_chain_0 (by decide) rfl ?_
  refine ks_istore_n dX16_chain_1 (by decide) rfl ?_
  refine ks_sub [(2, _), (0, _), (1, _)] rfl ?_
  refine ks_iload_n dX16_chain_2 rfl rfl ?_
  refine ks_istore_n dX16_chain_3 (by decide) rfl ?_
  refine ks_sub [(3, _), (0, _), (1, _), (2, _)] rfl ?_
  rw [show (Value.int (nI last)) = .int (nI (last + 1) - 1) by rw [nI_pred]]
  refine ks_sub [(0, _), (2, _), (3, _)] rfl ?_
  refine l_rcPath hI hW (fun S2 f2 u2 e2 hf2 => ?_) n 0 (last + 1) S f (by omega) (by omega) rfl (Nat.zero_le _) (ks_up.rf _ _) h360 (fun j hj => absurd hj (Nat.not_lt_zero _))
  have o2 := u2.at o0 (by decide)
  refine ks_aload_n dX16_chain_31 rfl rfl ?_
  refine ks_iconst (x := nI 0) dX16_chain_32 (by decide) rfl ?_
  refine ks_putf (T := TX16) (kf := 52) kx_2420 rfl in_X16 tyX16_ok nmX16 cl_X16 (by decide) o2 (Nat.le_of_ble_eq_true rfl) rfl rfl rfl rfl dX16_chain_33 rfl ?_
  refine md_put mdp_52 ?_
  refine ks_iload_n dX16_chain_36 rfl rfl ?_
  refine ks_iconst (x := nI 1) dX16_chain_37 (by decide) rfl ?_
  refine ks_subD dX16_chain_38 rfl ?_
  refine ks_istore_n dX16_chain_39 (by decide) rfl ?_
  refine ks_sub [(3, _), (0, _), (2, _)] rfl ?_
  have m2 : mqB S2 V F Gp := mb0.fr u2 (by decide) (fun x hx => by
    rw [List.mem_singleton] at hx
    subst hx
    exact ⟨⟨_, h360, fun g h => by cases h⟩, ⟨_, e2, fun g h => by cases h⟩⟩)
  have C2 : rcnS S2 V F n B Gp R := ⟨o2, m2, rb0.up u2 (by decide), ⟨f3, u2.at e343 (by decide), hf3⟩, v52, hRl, hm⟩
  have u3 : ks_up S2 (ks_set S2 290 (rfE (va_up V 52 (.int (nI 0))))) [290, 343] := ks_up_set _ _ (by decide)
  have C3 := C2.wr (R2 := []) (g := f3) u3 (ks_set_same _ _ _) (fun j hj => va_up_ne _ _ hj) ((ks_set_ne _ _ (by decide)).trans (u2.at e343 (by decide))) (fun j hj => absurd hj (Nat.not_lt_zero _)) (va_up_self _ _ _) (Nat.zero_le _) (fun x hx => absurd hx List.not_mem_nil)
  have K3 : rchK n B S _ V _ F F := ⟨(sfK.of (u2.mono (L' := 360 :: (nmL n B ++ LCx)) (fun a ha => by rw [List.mem_singleton] at ha; rw [ha]; exact List.mem_cons_self))).trans ((sfK.of u3).mono (fun a ha => List.mem_cons_of_mem _ (List.mem_append_right _ ((show ∀ a ∈ ([290, 343] : List Nat), a ∈ LCx by decide) a ha)))), fun k hk => (show va_up V 52 (.int (nI 0)) k = V k from va_up_ne _ _ (fun q => hk (by rw [q]; decide)))⟩
  refine ks_sub [(0, _), (3, _)] rfl ?_
  exact l_rcRun9 (S := S) hQ hh9 hva hc0 hW hD hl h565 rb0.2.2 v47 hf2 (upL B n (last + 1)).length _ _ F B [] (Nat.le_refl _) K3 ((ks_set_ne _ _ (by decide)).trans e2) C3 (eqB.rf B) hQ0 (Nat.zero_le _) (by rw [List.take_length])

set_option maxRecDepth 100000 in
set_option maxHeartbeats 3200000 in
theorem l_jgK9 {l : Launch} {G : ks_G} {d : Nat} {S : ks_S} {V : Nat → Value} {n best F q : Nat} {B : Nat → Bk} {T R : List Nat} {bf : Nat → Option Nat} {Gp : Pt} {g fc fp : Nat → Nat} {Q : List Nat → Prop} (hb : mqB S V F Gp) (hn : nwS S) (hx5 : 565 ≤ S.1) (hr : S.1 + F + 30 < ks_B) (h341 : S.2.2 341 = some (.inl (7, 61, .inr (.inr (.inr (.inr bf)))))) (hR : rbS S n B) (hbn : ∀ i, n ≤ i → bf i = none) (v47 : V 47 = .int (nI n)) (v48 : V 48 = .int (nI best)) (hbe : best < n) (hn60 : n ≤ 60) (hy : S.2.2 531 = some (kB 1600 g)) (kg : kO g) (hT : T.length ≤ 1600) (hg : ∀ j, j < T.length → g j = mg T j) (hbl : blk_ (mg T) T.length = true) (hw : rwS S) (hq : q < n) (hT1 : tg_num (btB T) ≠ 0) (h343 : ∃ f, S.2.2 343 = some (kN 2300 f) ∧ ∀ j, j < R.length → f j = R.getD j 0) (v52 : V 52 = .int (nI R.length)) (hRl : R.length ≤ 2300) (hRm : ∀ x ∈ R, rmK n B x) (h360 : S.2.2 360 = some (kN 61 fp)) (h342 : S.2.2 342 = some (kN 512 fc)) (hQ : ∀ B', eqB (va_up B n (rkB B T q S.1)) B' → ∀ b, b < n + 1 → cnQ B' b Q) (hQ0 : Q []) (hh9 : ∀ i, i < n + 1 → bkH ((va_up B n (rkB B T q S.1)) i) < 700) (hva : ∀ b t, b < n + 1 → t < mg (bkM ((va_up B n (rkB B T q S.1)) b)) 80 → vaM (bkM ((va_up B n (rkB B T q S.1)) b)) t ≤ 2100000000000000) (hc0 : ∀ b, b < n + 1 → 0 < mg (bkM ((va_up B n (rkB B T q S.1)) b)) 80) (hW : chW (n + 1) (va_up B n (rkB B T q S.1))) (hD : rbD (n + 1) (va_up B n (rkB B T q S.1))) (hlen : (rchF Gp (n + 1) (upL (va_up B n (rkB B T q S.1)) (n + 1) (n + 1)).reverse (va_up B n (rkB B T q S.1)) []).1 = 0 → (rchF Gp (n + 1) (upL (va_up B n (rkB B T q S.1)) (n + 1) (n + 1)).reverse (va_up B n (rkB B T q S.1)) []).2.1.length ≤ 400) {P9 : Option Value → ks_S → Prop} (kF : ∀ (S1 : ks_S) (V1 : Nat → Value), n = 60 → pbK [] [111] S S1 V V1 → V1 111 = .int (nI 2) → P9 (some (.int (nI 0))) S1) (k1 : ∀ (S2 : ks_S) (V2 : Nat → Value), n < 60 → kpZ S S2 V V2 n F Gp B bf T (q + 1) (bkH (B q) + 1) ((2 ^ 256 / (tg_num (btB T) + 1) + bkW (B q)) % 2 ^ 256) → bkW (rkB B T q S.1) ≤ bkW (B best) → P9 (some (.int (nI 1))) S2) (kC : ∀ (S2 S3 S4 : ks_S) (V2 V3 V4 : Nat → Value) (F3 : Nat) (R3 : List Nat), n < 60 → kpZ S S2 V V2 n F Gp B bf T (q + 1) (bkH (B q) + 1) ((2 ^ 256 / (tg_num (btB T) + 1) + bkW (B q)) % 2 ^ 256) → bkW (B best) < bkW (rkB B T q S.1) → (rchK (n + 1) (va_up B n (rkB B T q S.1)) S2 S3 V2 V3 F F3 ∧ ∃ f9, S3.2.2 360 = some (kN 61 f9)) → rcnS S3 V3 F3 (n + 1) (rchF Gp (n + 1) (upL (va_up B n (rkB B T q S.1)) (n + 1) (n + 1)).reverse (va_up B n (rkB B T q S.1)) []).2.2 Gp R3 → (rchF Gp (n + 1) (upL (va_up B n (rkB B T q S.1)) (n + 1) (n + 1)).reverse (va_up B n (rkB B T q S.1)) []).1 ≠ 0 → pbK [] [55, 111] S3 S4 V3 V4 → V4 55 = .int (nI (rchF Gp (n + 1) (upL (va_up B n (rkB B T q S.1)) (n + 1) (n + 1)).reverse (va_up B n (rkB B T q S.1)) []).1) → V4 111 = .int (nI 1) → P9 (some (.int (nI 0))) S4) (k0 : ∀ (S2 S3 S5 : ks_S) (V2 V3 V5 : Nat → Value) (F3 : Nat) (fc5 : Nat → Nat), n < 60 → kpZ S S2 V V2 n F Gp B bf T (q + 1) (bkH (B q) + 1) ((2 ^ 256 / (tg_num (btB T) + 1) + bkW (B q)) % 2 ^ 256) → bkW (B best) < bkW (rkB B T q S.1) → (rchK (n + 1) (va_up B n (rkB B T q S.1)) S2 S3 V2 V3 F F3 ∧ ∃ f9, S3.2.2 360 = some (kN 61 f9)) → (rchF Gp (n + 1) (upL (va_up B n (rkB B T q S.1)) (n + 1) (n + 1)).reverse (va_up B n (rkB B T q S.1)) []).1 = 0 → pbK [342] [48, 50] S3 S5 V3 V5 → rcnS S3 V3 F3 (n + 1) (rchF Gp (n + 1) (upL (va_up B n (rkB B T q S.1)) (n + 1) (n + 1)).reverse (va_up B n (rkB B T q S.1)) []).2.2 Gp (rchF Gp (n + 1) (upL (va_up B n (rkB B T q S.1)) (n + 1) (n + 1)).reverse (va_up B n (rkB B T q S.1)) []).2.1 → V5 48 = .int (nI n) → V5 50 = .int (nI (rchF Gp (n + 1) (upL (va_up B n (rkB B T q S.1)) (n + 1) (n + 1)).reverse (va_up B n (rkB B T q S.1)) []).2.1.length) → S5.2.2 342 = some (kN 512 fc5) → (∀ j, j < (rchF Gp (n + 1) (upL (va_up B n (rkB B T q S.1)) (n + 1) (n + 1)).reverse (va_up B n (rkB B T q S.1)) []).2.1.length → fc5 j = (rchF Gp (n + 1) (upL (va_up B n (rkB B T q S.1)) (n + 1) (n + 1)).reverse (va_up B n (rkB B T q S.1)) []).2.1.getD j 0) → P9 (some (.int (nI (if q = best then 0 else 2)))) S5) : ks_X l G mX16_judge (d + 15) 172 [(0, .ref 290), (1, .int (nI T.length)), (2, .int (nI q))] [] S P9 := by
  obtain ⟨-, h337, w338, w339, w340, -, -, -, -, -, w358, -⟩ := id hw
  have hO : S.2.2 290 = some (rfE V) := by
    obtain ⟨-, -, -, hO, -⟩ := hb
    exact hO
  have hT2 : tg_num (btB T) < 2 ^ 255 := by
    have h1 := tg_le (btB T)
    have h2 : tg_num 545259519 < 2 ^ 255 := by decide +kernel
    omega
  refine ks_aload_n dX16_judge_172 rfl rfl ?_
  refine ks_getf (T := TX16) (kf := 47) kx_2415 rfl in_X16 cl_X16 (by decide) hO rfl dX16_judge_173 rfl ?_
  refine ks_tv v47 ?_
  refine ks_bipush (x := nI 60) dX16_judge_176 (by decide) rfl ?_
  refine ks_icmp_neN (tgt := 188) (by omega) (by decide) dX16_judge_178 (by decide) rfl (fun h1 => ?_) (fun h1 => ?_)
  · refine ks_aload_n dX16_judge_188 rfl rfl ?_
    refine ks_aload_n dX16_judge_189 rfl rfl ?_
    refine ks_getf (T := TX16) (kf := 109) kx_2477 rfl in_X16 cl_X16 (by decide) hO rfl dX16_judge_190 rfl ?_
    refine ks_iload_n dX16_judge_193 rfl rfl ?_
    refine ks_iload_n dX16_judge_194 rfl rfl ?_
    refine ks_callV (n := 3) (M' := mX16_keep) (c_md_keepQ (d := d + 9) (B := B) (bf := bf) hb hn hx5 hr h341 hR hbn v47 (by omega) hy kg (by decide) ⟨hT, hT⟩ (by decide) hg hbl w338 w339 w340 w358 (by omega) hT2 hq) hO cl_X16 rfl kx_2046 kx_2048 kxp_71 kx_30 kx_2049 (by decide +kernel) rfl (by decide) (Nat.le_of_ble_eq_true rfl) rfl dX16_judge_195 rfl (fun z2 S2 y2 => ?_)
    obtain ⟨rfl, V2, Z2⟩ := y2
    obtain ⟨B2, eB2⟩ : ∃ b, b = (va_up B n (rkB B T q S.1)) := ⟨_, rfl⟩
    rw [← eB2] at hQ hh9 hva hc0 hW hD hlen kC k0
    have hB2 : rbS S2 (n + 1) B2 := by rw [eB2]; exact Z2.2.2
    have hbN : B2 n = rkB B T q S.1 := by rw [eB2]; exact va_up_self _ _ _
    have hbB : B2 best = B best := by rw [eB2]; exact va_up_ne _ _ (by omega)
    obtain ⟨⟨c21, c22, nw2⟩, old2, ⟨o2, v247, hv2⟩, -⟩ := id Z2.1
    obtain ⟨⟨bf2, h3412, hbf2⟩, hBB2, hn612⟩ := id hB2
    have v248 : V2 48 = .int (nI best) := (hv2 48 (by decide)).trans v48
    obtain ⟨W9, eW9⟩ : ∃ v, v = bkW (rkB B T q S.1) := ⟨_, rfl⟩
    rw [← eW9] at k1 kC k0
    obtain ⟨on, pdn, ⟨ghn, ehn, khn, ahn⟩, wkn, bdn⟩ := hBB2 n (by omega)
    obtain ⟨ob, pdb, ⟨ghb, ehb, khb, ahb⟩, wkb, bdb⟩ := hBB2 best (by omega)
    refine ks_aload_n dX16_judge_198 rfl rfl ?_
    refine ks_getf (T := TX16) (kf := 46) kx_2414 rfl in_X16 cl_X16 (by decide) o2 rfl dX16_judge_199 rfl ?_
    refine ks_aload_n dX16_judge_202 rfl rfl ?_
    refine ks_getf (T := TX16) (kf := 47) kx_2415 rfl in_X16 cl_X16 (by decide) o2 rfl dX16_judge_203 rfl ?_
    refine ks_tv v247 ?_
    refine ks_iconst (x := nI 1) dX16_judge_206 (by decide) rfl ?_
    refine ks_subN (by omega) dX16_judge_207 rfl ?_
    refine ks_ti (y := nI (n)) rfl ?_
    refine ks_aaldN (i := n) (b := (bkN (B2 n))) (by decide) h3412 rfl (by omega) (by decide) (hbf2 n (by omega)) dX16_judge_208 rfl ?_
    refine ks_getN (T := TX12) (kf := 8) kx_2069 rfl in_X12 cl_X12 (by decide) on rfl dX16_judge_209 rfl ?_
    refine ks_aload_n dX16_judge_212 rfl rfl ?_
    refine ks_getf (T := TX16) (kf := 46) kx_2414 rfl in_X16 cl_X16 (by decide) o2 rfl dX16_judge_213 rfl ?_
    refine ks_aload_n dX16_judge_216 rfl rfl ?_
    refine ks_getf (T := TX16) (kf := 48) kx_2416 rfl in_X16 cl_X16 (by decide) o2 rfl dX16_judge_217 rfl ?_
    refine ks_tv v248 ?_
    refine ks_aaldN (i := best) (b := (bkN (B2 best))) (by decide) h3412 rfl (by omega) (by decide) (hbf2 best (by omega)) dX16_judge_220 rfl ?_
    refine ks_getN (T := TX12) (kf := 8) kx_2069 rfl in_X12 cl_X12 (by decide) ob rfl dX16_judge_221 rfl ?_
    have wkn9 : wA S2 (bkN (B2 n) + 11) W9 := by rw [eW9, ← hbN]; exact wkn
    have wkb9 : wA S2 (bkN (B2 best) + 11) (bkW (B best)) := by rw [← hbB]; exact wkb
    refine ks_callS (n := 2) (M' := mX15_compare) (c_rg_compare (d := d + 14) (A := W9) (B := bkW (B best)) wkn9 wkb9 (by omega) (by omega)) kx_2035 kx_1870 kx_33 kx_1871 (by decide +kernel) rfl (by decide) (Nat.le_of_ble_eq_true rfl) rfl dX16_judge_224 rfl (fun z3 S3 y3 => ?_)
    obtain ⟨rfl, hT3⟩ := y3
    obtain rfl := hT3.symm
    refine ks_if_gt (tgt := 232) dX16_judge_227 (by decide) rfl (fun h2 => ?_) (fun h2 => ?_)
    · have hgt : bkW (B best) < W9 := by
        have := cmpN_gt.mp h2
        omega
      obtain ⟨f3, e343, hf3⟩ := h343
      have I2 : rcnS S2 V2 F (n + 1) B2 Gp R := ⟨o2, Z2.2.1, hB2, ⟨f3, old2 _ _ e343 (by decide), hf3⟩, (hv2 52 (by decide)).trans v52, hRl, fun x hx => by rw [eB2]; exact rmK_up (hRm x hx)⟩
      have e360 := old2 _ _ h360 (by decide)
      have e342 := old2 _ _ h342 (by decide)
      refine ks_aload_n dX16_judge_232 rfl rfl ?_
      refine ks_aload_n dX16_judge_233 rfl rfl ?_
      refine ks_getf (T := TX16) (kf := 47) kx_2415 rfl in_X16 cl_X16 (by decide) o2 rfl dX16_judge_234 rfl ?_
      refine ks_tv v247 ?_
      refine ks_iconst (x := nI 1) dX16_judge_237 (by decide) rfl ?_
      refine ks_subN (by omega) dX16_judge_238 rfl ?_
      refine ks_ti (y := nI (n)) rfl ?_
      refine ks_callV (n := 1) (M' := mX16_chain) (c_md_chain9 (d := d) hQ hh9 hva hc0 hW hD (last := n) (Nat.lt_succ_self n) I2 e360 v247 hQ0) o2 cl_X16 rfl kx_2844 kx_2846 kxp_141 kx_30 kx_2847 (by decide +kernel) rfl (by decide) (Nat.le_of_ble_eq_true rfl) rfl dX16_judge_239 rfl (fun z4 S4 y4 => ?_)
      obtain ⟨rfl, V4, F4, R4, K4, I4, hR4⟩ := y4
      obtain ⟨rc, erc⟩ : ∃ v, v = rchF Gp (n + 1) (upL B2 (n + 1) (n + 1)).reverse B2 [] := ⟨_, rfl⟩
      rw [← erc] at I4 hR4 hlen kC k0 ⊢
      have hrc : rc.1 ≤ 16 := by rw [erc]; exact rchF_le _ _ _
      have o4 := I4.1
      have v447 : V4 47 = .int (nI (n + 1)) := (K4.1.2 47 (by decide)).trans v247
      have v448 : V4 48 = .int (nI best) := (K4.1.2 48 (by decide)).trans v248
      refine ks_istore_n dX16_judge_242 (by decide) rfl ?_
      refine ks_sub [(3, _), (0, _), (1, _), (2, _)] rfl ?_
      refine ks_iload_n dX16_judge_243 rfl rfl ?_
      refine ks_if_eqN (tgt := 253) (by omega) dX16_judge_244 (by decide) rfl (fun h3 => ?_) (fun h3 => ?_)
      · obtain rfl := hR4 h3
        have hl4 := hlen h3
        have e3424 : S4.2.2 342 = some (kN 512 fc) := K4.1.1.2 _ _ e342 (fun hm => by
                rcases List.mem_cons.mp hm with h | h
                · cases h
                · rcases List.mem_append.mp h with h | h
                  · obtain ⟨i, hi, e9⟩ := List.mem_map.mp h
                    have := (hBB2 i (List.mem_range.mp hi)).2.2.2.2.1
                    omega
                  · exact absurd h (by decide)) (fun g h => by cases h)
        refine ks_aload_n dX16_judge_253 rfl rfl ?_
        refine ks_callV (n := 0) (M' := mX16_take) (c_md_take (d := d + 14) I4 hl4 e3424) o4 cl_X16 rfl kx_2363 kx_2365 kxp_126 kx_30 kx_2366 (by decide +kernel) rfl (by decide) (Nat.le_of_ble_eq_true rfl) rfl dX16_judge_254 rfl (fun z6 S6 y6 => ?_)
        obtain ⟨rfl, fc6, u6, I6, e6, hf6⟩ := y6
        have o6 := I6.1
        have v647 : va_up V4 50 (.int (nI rc.2.1.length)) 47 = .int (nI (n + 1)) := (va_up_ne _ _ (by decide)).trans v447
        have v648 : va_up V4 50 (.int (nI rc.2.1.length)) 48 = .int (nI best) := (va_up_ne _ _ (by decide)).trans v448
        refine ks_iload_n dX16_judge_257 rfl rfl ?_
        refine ks_aload_n dX16_judge_258 rfl rfl ?_
        refine ks_getf (T := TX16) (kf := 48) kx_2416 rfl in_X16 cl_X16 (by decide) o6 rfl dX16_judge_259 rfl ?_
        refine ks_tv v648 ?_
        refine ks_icmp_neN (tgt := 269) (by omega) (by omega) dX16_judge_262 (by decide) rfl (fun hc262 => ?_) (fun hc262 => ?_)
        · refine ks_iconst (x := nI 0) dX16_judge_269 (by decide) rfl ?_
          refine ks_istore dX16_judge_270 (by decide) rfl ?_
          refine ks_sub [(4, _), (0, _), (1, _), (2, _), (3, _)] rfl ?_
          refine ks_aload_n dX16_judge_272 rfl rfl ?_
          refine ks_aload_n dX16_judge_273 rfl rfl ?_
          refine ks_getf (T := TX16) (kf := 47) kx_2415 rfl in_X16 cl_X16 (by decide) o6 rfl dX16_judge_274 rfl ?_
          refine ks_tv v647 ?_
          refine ks_iconst (x := nI 1) dX16_judge_277 (by decide) rfl ?_
          refine ks_subN (by omega) dX16_judge_278 rfl ?_
          refine ks_ti (y := nI (n)) rfl ?_
          refine ks_putf (T := TX16) (kf := 48) kx_2416 rfl in_X16 tyX16_ok nmX16 cl_X16 (by decide) o6 (Nat.le_of_ble_eq_true rfl) rfl rfl rfl rfl dX16_judge_279 rfl ?_
          refine md_put mdp_48 ?_
          refine ks_iload dX16_judge_282 rfl rfl ?_
          refine ks_if_eqN (tgt := 291) (by decide) dX16_judge_284 (by decide) rfl (fun hc284 => ?_) (fun hc284 => ?_)
          · refine ks_iconst (x := nI 2) dX16_judge_291 (by decide) rfl ?_
            refine ks_iret rfl dX16_judge_292 ?_
            rw [show nI 2 = nI (if q = best then 0 else 2) from congrArg nI (if_neg (by omega)).symm]
            exact k0 S2 S4 _ V2 V4 (va_up (va_up V4 50 (.int (nI rc.2.1.length))) 48 (.int (nI n))) F4 fc6 (by omega) Z2 hgt K4 h3 ⟨(u6.mono (by decide)).trans (ks_up_set _ _ (by decide)), ks_set_same _ _ _, fun k hk => by
              simp only [List.mem_cons, List.not_mem_nil, or_false, not_or] at hk
              rw [va_up_ne _ _ hk.1, va_up_ne _ _ hk.2]⟩ I4 (va_up_self _ _ _) ((va_up_ne _ _ (by decide)).trans (va_up_self _ _ _)) ((ks_set_ne _ _ (by decide)).trans e6) hf6
          · exact absurd hc284 (by decide)
        · refine ks_iconst (x := nI 1) dX16_judge_265 (by decide) rfl ?_
          refine ks_goto (tgt := 270) dX16_judge_266 (by decide) ?_
          refine ks_istore dX16_judge_270 (by decide) rfl ?_
          refine ks_sub [(4, _), (0, _), (1, _), (2, _), (3, _)] rfl ?_
          refine ks_aload_n dX16_judge_272 rfl rfl ?_
          refine ks_aload_n dX16_judge_273 rfl rfl ?_
          refine ks_getf (T := TX16) (kf := 47) kx_2415 rfl in_X16 cl_X16 (by decide) o6 rfl dX16_judge_274 rfl ?_
          refine ks_tv v647 ?_
          refine ks_iconst (x := nI 1) dX16_judge_277 (by decide) rfl ?_
          refine ks_subN (by omega) dX16_judge_278 rfl ?_
          refine ks_ti (y := nI (n)) rfl ?_
          refine ks_putf (T := TX16) (kf := 48) kx_2416 rfl in_X16 tyX16_ok nmX16 cl_X16 (by decide) o6 (Nat.le_of_ble_eq_true rfl) rfl rfl rfl rfl dX16_judge_279 rfl ?_
          refine md_put mdp_48 ?_
          refine ks_iload dX16_judge_282 rfl rfl ?_
          refine ks_if_eqN (tgt := 291) (by decide) dX16_judge_284 (by decide) rfl (fun hc284 => ?_) (fun hc284 => ?_)
          · exact absurd hc284 (by decide)
          · refine ks_iconst (x := nI 0) dX16_judge_287 (by decide) rfl ?_
            refine ks_goto (tgt := 292) dX16_judge_288 (by decide) ?_
            refine ks_iret rfl dX16_judge_292 ?_
            rw [show nI 0 = nI (if q = best then 0 else 2) from congrArg nI (if_pos (by omega)).symm]
            exact k0 S2 S4 _ V2 V4 (va_up (va_up V4 50 (.int (nI rc.2.1.length))) 48 (.int (nI n))) F4 fc6 (by omega) Z2 hgt K4 h3 ⟨(u6.mono (by decide)).trans (ks_up_set _ _ (by decide)), ks_set_same _ _ _, fun k hk => by
              simp only [List.mem_cons, List.not_mem_nil, or_false, not_or] at hk
              rw [va_up_ne _ _ hk.1, va_up_ne _ _ hk.2]⟩ I4 (va_up_self _ _ _) ((va_up_ne _ _ (by decide)).trans (va_up_self _ _ _)) ((ks_set_ne _ _ (by decide)).trans e6) hf6
      · refine ks_aload_n dX16_judge_247 rfl rfl ?_
        refine ks_iload_n dX16_judge_248 rfl rfl ?_
        refine ks_callV (n := 1) (M' := mX16_refuse) (c_md_refuse o4) o4 cl_X16 rfl kx_2812 kx_2814 kxp_133 kx_30 kx_2815 (by decide +kernel) rfl (by decide) (Nat.le_of_ble_eq_true rfl) rfl dX16_judge_249 rfl (fun z5 S5 y5 => ?_)
        obtain ⟨rfl, V5, J5, va5, vb5⟩ := y5
        refine ks_iret rfl dX16_judge_252 ?_
        exact kC S2 S4 S5 V2 V4 V5 F4 R4 (by omega) Z2 hgt K4 I4 h3 J5 va5 vb5
    · refine ks_iconst (x := nI 1) dX16_judge_230 (by decide) rfl ?_
      refine ks_iret rfl dX16_judge_231 ?_
      exact k1 S2 V2 (by omega) Z2 (Classical.not_not.mp (mt cmpN_gt.mpr h2))
  · refine ks_aload_n dX16_judge_181 rfl rfl ?_
    refine ks_iconst (x := nI 2) dX16_judge_182 (by decide) rfl ?_
    refine ks_putf (T := TX16) (kf := 111) kx_2479 rfl in_X16 tyX16_ok nmX16 cl_X16 (by decide) hO (Nat.le_of_ble_eq_true rfl) rfl rfl rfl rfl dX16_judge_183 rfl ?_
    refine md_put mdp_111 ?_
    refine ks_iconst (x := nI 0) dX16_judge_186 (by decide) rfl ?_
    refine ks_iret rfl dX16_judge_187 ?_
    exact kF _ _ (by omega) ⟨ks_up_set _ _ (by decide), ks_set_same _ _ _, fun k hk => va_up_ne _ _ (fun e => hk (by rw [e]; decide))⟩ (va_up_self _ _ _)

