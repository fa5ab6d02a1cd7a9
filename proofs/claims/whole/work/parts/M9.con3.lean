/-! THE REFERENCE: connect, the whole -/
def rcF (Gp : Pt) (ck : Bool) (B : Nat → Bk) (M : List Nat) (b h : Nat) : Nat → Nat → List Nat → Nat → Nat × List Nat
  | 0, _, R, left => if 5000000000 / 2 ^ (h / 12) + left < vaM M 0 then (15, R) else (0, R)
  | u + 1, t, R, left => if t = 0 then (if 400 < (radR B b 0 (txP M 0).2.2.1 0 R).length then (16, R) else rcF Gp ck B M b h u 1 (radR B b 0 (txP M 0).2.2.1 0 R) left)
    else if (fcR B M t h R (txP M t).1 0 0).1 ≠ 0 then ((fcR B M t h R (txP M t).1 0 0).1, R)
    else if (fcR B M t h R (txP M t).1 0 0).2 < vaM M t then (13, R)
    else if ck = false ∧ ∃ i, i < (txP M t).1 ∧ ukR Gp B M t i (R.getD (fiR B M t R i - 1) 0) = false then (14, R)
    else if 400 < (radR B b t (txP M t).2.2.1 0 (tkR B M t (txP M t).1 0 R)).length then (16, R)
    else rcF Gp ck B M b h u (t + 1) (radR B b t (txP M t).2.2.1 0 (tkR B M t (txP M t).1 0 R)) (left + ((fcR B M t h R (txP M t).1 0 0).2 - vaM M t))
theorem tkR_len {B : Nat → Bk} {M : List Nat} {t : Nat} : ∀ (u i : Nat) (R : List Nat), (tkR B M t u i R).length ≤ R.length
  | 0, _, R => Nat.le_refl _
  | u + 1, i, R => Nat.le_trans (tkR_len u (i + 1) _) (by rw [rmA_len]; omega)
def ckB (B : Nat → Bk) (b : Nat) : Nat → Bk := fun i => if i = b then setC (B b) (some (0, [])) else B i
theorem ckB_M (B : Nat → Bk) (b i : Nat) : bkM (ckB B b i) = bkM (B i) := by
  unfold ckB
  by_cases h : i = b
  · rw [if_pos h, h]; rfl
  · rw [if_neg h]
/-- blocks lie apart -/
def rbD (n : Nat) (B : Nat → Bk) : Prop := ∀ i j, i < n → j < n → i ≠ j → bkN (B i) + 11 < bkN (B j) ∨ bkN (B j) + 11 < bkN (B i)
theorem rbS.ck {S S1 : ks_S} {n b : Nat} {B : Nat → Bk} (h : rbS S n B) (hD : rbD n B) (hb : b < n) (hu : ks_up S S1 [bkN (B b)]) (e1 : S1.2.2 (bkN (B b)) = some (rkO (setC (B b) (some (0, []))))) : rbS S1 n (ckB B b) := by
  obtain ⟨⟨bf, h1, h2⟩, h3, h4⟩ := h
  have lo := (h3 b hb).2.2.2.2.1
  refine ⟨⟨bf, hu.at h1 (by rw [List.mem_singleton]; omega), fun i hi => ?_⟩, fun i hi => ?_, h4⟩
  · rw [h2 i hi]
    unfold ckB
    by_cases e : i = b
    · rw [if_pos e, e]; rfl
    · rw [if_neg e]
  · unfold ckB
    by_cases e : i = b
    · rw [if_pos e]
      obtain ⟨q1, q2, ⟨gh, q3, q4⟩, q5, q6, q7⟩ := h3 b hb
      have z1 : pdK S1 (bkN (B b) + 3) (bkN (B b) + 1) 1600 (bkM (B b)) := q2.up hu (fun x hx => by rw [List.mem_singleton] at hx; omega)
      have z2 : S1.2.2 (bkN (B b) + 2) = some (kB 32 gh) := hu.at q3 (by rw [List.mem_singleton]; omega)
      have z3 : wA S1 (bkN (B b) + 11) (bkW (B b)) := q5.up hu (by rw [List.mem_singleton]; omega)
      exact ⟨e1, z1, ⟨gh, z2, q4⟩, z3, q6, q7⟩
    · rw [if_neg e]
      exact (h3 i hi).up hu (fun x hx => by rw [List.mem_singleton] at hx; have := hD i b hi hb e; omega)
theorem rcnS.ck {S S1 : ks_S} {V : Nat → Value} {F n b : Nat} {B : Nat → Bk} {Gp : Pt} {R : List Nat} (h : rcnS S V F n B Gp R) (hD : rbD n B) (hb : b < n) (hu : ks_up S S1 [bkN (B b)]) (e1 : S1.2.2 (bkN (B b)) = some (rkO (setC (B b) (some (0, []))))) : rcnS S1 V F n (ckB B b) Gp R := by
  obtain ⟨h1, h2, h3, ⟨f, h4, h5⟩, h6, h7, h8⟩ := h
  obtain ⟨q1, -, -, -, lo, -⟩ := h3.2.1 b hb
  refine ⟨hu.at h1 (by rw [List.mem_singleton]; omega), h2.up hu (fun x hx => by rw [List.mem_singleton] at hx; omega) (fun x hx => ?_) (fun x hx => ?_), h3.ck hD hb hu e1, ⟨f, hu.at h4 (by rw [List.mem_singleton]; omega), h5⟩, h6, h7, fun x hx => ?_⟩
  · rw [List.mem_singleton] at hx
    rw [hx]
    exact ⟨_, q1, fun g h => by cases h⟩
  · rw [List.mem_singleton] at hx
    rw [hx]
    exact ⟨_, e1, fun g h => by cases h⟩
  · have := h8 x hx
    unfold rmK at this ⊢
    rw [ckB_M]
    exact this
theorem fcR_ne {B : Nat → Bk} {M : List Nat} {t h : Nat} {R : List Nat} : ∀ {u i s : Nat}, (fcR B M t h R u i s).1 = 0 → ∀ j, i ≤ j → j < i + u → fiR B M t R j ≠ 0
  | 0, i, s, _, j, h1, h2 => by omega
  | u + 1, i, s, e, j, h1, h2 => by
    unfold fcR at e
    split at e
    · cases e
    · next h0 =>
      split at e
      · cases e
      · split at e
        · cases e
        · by_cases ej : j = i
          · rw [ej]; exact h0
          · exact fcR_ne e j (by omega) (by omega)
set_option maxRecDepth 100000 in
set_option maxHeartbeats 800000 in
theorem l_cnEnd {l : Launch} {G : ks_G} {d : Nat} {S : ks_S} {V : Nat → Value} {F n b : Nat} {B : Nat → Bk} {Gp : Pt} (hD : rbD n B) (hb : b < n) (hh9 : ∀ i, i < n → bkH (B i) < 700) (hva : ∀ t, t < mg (bkM (B b)) 80 → vaM (bkM (B b)) t ≤ 2100000000000000) (hc0 : 0 < mg (bkM (B b)) 80) {t fe : Nat} {S1 : ks_S} {V1 : Nat → Value} {F1 : Nat} {R : List Nat} (K1 : cnK S S1 V V1 F F1) (C1 : rcnS S1 V1 F1 n B Gp R) (hfe : fe ≤ 12 * 2100000000000000) : ks_X l G mX16_connect (d + 13) 485 [(0, .ref 290), (1, .int (nI b)), (2, .ref (bkN (B b))), (3, .ref ((bkN (B b)) + 3)), (4, .long (lN fe))] [] S1 (fun z S' => z = some (.int (nI (rcF Gp (bkC (B b)).isSome B (bkM (B b)) b (bkH (B b)) 0 t R fe).1)) ∧ ∃ V' F' R', (sfK ((bkN (B b)) :: LCx) S S' F F' ∧ ∀ k, k ∉ LCf → V' k = V k) ∧ (((rcF Gp (bkC (B b)).isSome B (bkM (B b)) b (bkH (B b)) 0 t R fe).1 ≠ 0 ∧ rcnS S' V' F' n B Gp R') ∨ ((rcF Gp (bkC (B b)).isSome B (bkM (B b)) b (bkH (B b)) 0 t R fe).1 = 0 ∧ R' = (rcF Gp (bkC (B b)).isSome B (bkM (B b)) b (bkH (B b)) 0 t R fe).2 ∧ rcnS S' V' F' n (ckB B b) Gp R'))) := by
  refine ks_lconst (x := lN 0) dX16_connect_485 (by decide) rfl ?_
  refine ks_lstore dX16_connect_486 (by decide) rfl ?_
  refine ks_sub [(6, _), (0, _), (1, _), (2, _), (3, _), (4, _)] rfl ?_
  refine ks_iconst (x := nI 0) dX16_connect_488 (by decide) rfl ?_
  refine ks_istore dX16_connect_489 (by decide) rfl ?_
  refine ks_sub [(8, _), (0, _), (1, _), (2, _), (3, _), (4, _), (6, _)] rfl ?_
  refine ks_sub [(0, _), (1, _), (2, _), (3, _), (4, _), (6, _), (8, _)] rfl ?_
  refine l_cnPaid (t := 0) (s := 0) C1 hb hc0 (fun S2 V2 sk => ?_) (txP (bkM (B b)) 0).2.2.1 0 S1 V1 (Nat.zero_add _) (skK.rf C1.1)
  have C2 := C1.sk sk
  have K2 := K1.trans (sk.c (F := F1))
  have hva0 := hva 0 hc0
  have hhb := hh9 b hb
  obtain ⟨hw, ehw⟩ : ∃ z, z = 5000000000 / 2 ^ (bkH (B b) / 12) := ⟨_, rfl⟩
  have hwb : hw ≤ 5000000000 := by rw [ehw]; exact Nat.div_le_self _ _
  obtain ⟨o2, mb2, rb2, ⟨f2, e3432, hf2⟩, v522, hRl2, hm2⟩ := id C2
  obtain ⟨⟨bf2, h3412, hbf2⟩, hBB2, hn612⟩ := id rb2
  obtain ⟨ob2, pd2, -, -, bd2⟩ := hBB2 b hb
  obtain ⟨g2, A2, gi2, ⟨ey2, kg2⟩, ⟨hMN2, hN162, hPB2, hP62, hy62⟩, hg2, hbl2, X2, hA2⟩ := id pd2
  refine ks_aload_n dX16_connect_531 rfl rfl ?_
  refine ks_getN (T := TX12) (kf := 4) kx_2064 rfl in_X12 cl_X12 (by decide) ob2 rfl dX16_connect_532 rfl ?_
  refine ks_bipush (x := nI 12) dX16_connect_535 (by decide) rfl ?_
  refine ks_divN (by omega) (by decide) (by decide) dX16_connect_537 rfl ?_
  refine ks_istore dX16_connect_538 (by decide) rfl ?_
  refine ks_sub [(8, _), (0, _), (1, _), (2, _), (3, _), (4, _), (6, _)] rfl ?_
  refine ks_lload dX16_connect_540 rfl rfl ?_
  refine ks_iload dX16_connect_542 rfl rfl ?_
  refine ks_bipush (x := nI 62) dX16_connect_544 (by decide) rfl ?_
  refine ks_icmp_leN (tgt := 553) (by omega) (by decide) dX16_connect_546 (by decide) rfl (fun h1 => ?_) (fun h1 => absurd h1 (by omega))
  refine ks_ldc2 dX16_connect_553 kx_1958 rfl ?_
  refine ks_tl (y := lN 5000000000) rfl ?_
  refine ks_iload dX16_connect_556 rfl rfl ?_
  refine ks_lshr dX16_connect_558 rfl ?_
  refine ks_tl (y := lN hw) (by rw [ehw]; exact sh_half (by omega)) ?_
  refine ks_lload dX16_connect_559 rfl rfl ?_
  refine ks_laddN dX16_connect_561 rfl ?_
  refine ks_lif_leN (tgt := 569) (by omega) (by omega) dX16_connect_562 rfl dX16_connect_563 (by decide) rfl (fun h2 => ?_) (fun h2 => ?_)
  · refine ks_aload_n dX16_connect_569 rfl rfl ?_
    refine ks_iconst (x := nI 1) dX16_connect_570 (by decide) rfl ?_
    refine ks_putN (T := TX12) (kf := 7) kx_2067 rfl in_X12 tyX12_ok nmX12 cl_X12 (by decide) ob2 (Nat.le_of_ble_eq_true rfl) rfl rfl rfl rfl dX16_connect_571 rfl ?_
    refine ks_iconst (x := nI 0) dX16_connect_574 (by decide) rfl ?_
    refine ks_iret rfl dX16_connect_575 ?_
    have er : rcF Gp (bkC (B b)).isSome B (bkM (B b)) b (bkH (B b)) 0 t R fe = (0, R) := by rw [rcF, ← ehw]; exact if_neg (by omega)
    rw [er]
    obtain ⟨S3, eS3⟩ : ∃ S3, S3 = ks_set S2 (bkN (B b)) (rkO (setC (B b) (some (0, [])))) := ⟨_, rfl⟩
    have u3 : ks_up S2 S3 [bkN (B b)] := by rw [eS3]; exact ks_up_set _ _ (List.mem_singleton.mpr rfl)
    have C3 := C2.ck hD hb u3 (by rw [eS3]; exact ks_set_same _ _ _)
    rw [eS3] at C3 u3
    exact ⟨rfl, V2, F1, R, ⟨(K2.1.mono (fun a ha => List.mem_cons_of_mem _ ha)).trans ((sfK.of u3).mono (fun a ha => by rw [List.mem_singleton] at ha; rw [ha]; exact List.mem_cons_self)), K2.2⟩, .inr ⟨rfl, rfl, C3⟩⟩
  · refine ks_bipush (x := nI 15) dX16_connect_566 (by decide) rfl ?_
    refine ks_iret rfl dX16_connect_568 ?_
    have er : rcF Gp (bkC (B b)).isSome B (bkM (B b)) b (bkH (B b)) 0 t R fe = (15, R) := by rw [rcF, ← ehw]; exact if_pos (by omega)
    rw [er]
    exact ⟨rfl, V2, F1, R, ⟨K2.1.mono (fun a ha => List.mem_cons_of_mem _ ha), K2.2⟩, .inl ⟨(show (15 : Nat) ≠ 0 by decide), C2⟩⟩
set_option maxRecDepth 100000 in
set_option maxHeartbeats 1600000 in
theorem l_cnLoop {l : Launch} {G : ks_G} {d : Nat} {S : ks_S} {V : Nat → Value} {F n b : Nat} {B : Nat → Bk} {Gp : Pt} (hD : rbD n B) (hb : b < n) (hh9 : ∀ i, i < n → bkH (B i) < 700) (hva : ∀ t, t < mg (bkM (B b)) 80 → vaM (bkM (B b)) t ≤ 2100000000000000) (hc0 : 0 < mg (bkM (B b)) 80) {Q : List Nat → Prop} (hQv : ∀ R, Q R → ∀ x ∈ R, rmV B x ≤ 2100000000000000) (hQ0 : ∀ R, Q R → R.length ≤ 400 → Q (radR B b 0 (txP (bkM (B b)) 0).2.2.1 0 R)) (hQt : ∀ t R, 0 < t → t < mg (bkM (B b)) 80 → Q R → R.length ≤ 400 → (fcR B (bkM (B b)) t (bkH (B b)) R (txP (bkM (B b)) t).1 0 0).1 = 0 → tkK B (bkM (B b)) t (txP (bkM (B b)) t).1 0 R ∧ Q (radR B b t (txP (bkM (B b)) t).2.2.1 0 (tkR B (bkM (B b)) t (txP (bkM (B b)) t).1 0 R))) : ∀ (f9 t fe : Nat) (S1 : ks_S) (V1 : Nat → Value) (F1 : Nat) (R : List Nat), t + f9 = mg (bkM (B b)) 80 → fe ≤ t * 2100000000000000 → cnK S S1 V V1 F F1 → rcnS S1 V1 F1 n B Gp R → Q R → R.length ≤ 400 → ks_X l G mX16_connect (d + 13) 18 [(0, .ref 290), (1, .int (nI b)), (2, .ref (bkN (B b))), (3, .ref ((bkN (B b)) + 3)), (4, .long (lN fe)), (6, .int (nI t))] [] S1 (fun z S' => z = some (.int (nI (rcF Gp (bkC (B b)).isSome B (bkM (B b)) b (bkH (B b)) f9 t R fe).1)) ∧ ∃ V' F' R', (sfK ((bkN (B b)) :: LCx) S S' F F' ∧ ∀ k, k ∉ LCf → V' k = V k) ∧ (((rcF Gp (bkC (B b)).isSome B (bkM (B b)) b (bkH (B b)) f9 t R fe).1 ≠ 0 ∧ rcnS S' V' F' n B Gp R') ∨ ((rcF Gp (bkC (B b)).isSome B (bkM (B b)) b (bkH (B b)) f9 t R fe).1 = 0 ∧ R' = (rcF Gp (bkC (B b)).isSome B (bkM (B b)) b (bkH (B b)) f9 t R fe).2 ∧ rcnS S' V' F' n (ckB B b) Gp R'))) := by
  intro f9
  induction f9 with
  | zero =>
    intro t fe S1 V1 F1 R hi hfe K1 C1 hQR hR4
    obtain ⟨o1, mb1, rb1, ⟨f1, e3431, hf1⟩, v521, hRl1, hm1⟩ := id C1
    obtain ⟨⟨bf1, h3411, hbf1⟩, hBB1, hn611⟩ := id rb1
    obtain ⟨ob1, pd1, -, -, bd1⟩ := hBB1 b hb
    obtain ⟨g1, A1, gi1, ⟨ey1, kg1⟩, ⟨hMN1, hN161, hPB1, hP61, hy61⟩, hg1, hbl1, X1, hA1⟩ := id pd1
    have cnt := (blk_b hbl1).2
    refine ks_iload dX16_connect_18 rfl rfl ?_
    refine ks_aload_n dX16_connect_20 rfl rfl ?_
    refine ks_getN (T := TX13) (kf := 1) kx_1814 rfl in_X13 cl_X13 (by decide) X1.1 rfl dX16_connect_21 rfl ?_
    refine ks_icmp_geN (tgt := 485) (by omega) (by omega) dX16_connect_24 (by decide) rfl (fun h1 => ?_) (fun h1 => absurd h1 (by omega))
    have hfe9 : fe ≤ 12 * 2100000000000000 := Nat.le_trans hfe (Nat.mul_le_mul_right _ (by omega))
    refine ks_sub [(0, _), (1, _), (2, _), (3, _), (4, _)] rfl ?_
    exact l_cnEnd (t := t) hD hb hh9 hva hc0 K1 C1 hfe9
  | succ f9 ih =>
    intro t fe S1 V1 F1 R hi hfe K1 C1 hQR hR4
    obtain ⟨o1, mb1, rb1, ⟨f1, e3431, hf1⟩, v521, hRl1, hm1⟩ := id C1
    obtain ⟨⟨bf1, h3411, hbf1⟩, hBB1, hn611⟩ := id rb1
    obtain ⟨ob1, pd1, -, -, bd1⟩ := hBB1 b hb
    obtain ⟨g1, A1, gi1, ⟨ey1, kg1⟩, ⟨hMN1, hN161, hPB1, hP61, hy61⟩, hg1, hbl1, X1, hA1⟩ := id pd1
    have cnt := (blk_b hbl1).2
    refine ks_iload dX16_connect_18 rfl rfl ?_
    refine ks_aload_n dX16_connect_20 rfl rfl ?_
    refine ks_getN (T := TX13) (kf := 1) kx_1814 rfl in_X13 cl_X13 (by decide) X1.1 rfl dX16_connect_21 rfl ?_
    refine ks_icmp_geN (tgt := 485) (by omega) (by omega) dX16_connect_24 (by decide) rfl (fun h1 => absurd h1 (by omega)) (fun h1 => ?_)
    have ht : t < mg (bkM (B b)) 80 := by omega
    have tx6 := bk_tx5 hbl1 ht
    have bd9 := tx_bd tx6
    have tail : ∀ (fe2 : Nat) (S2 : ks_S) (V2 : Nat → Value) (F2 : Nat) (R2 : List Nat), fe2 ≤ (t + 1) * 2100000000000000 → cnK S S2 V V2 F F2 → rcnS S2 V2 F2 n B Gp R2 → R2.length ≤ 400 → Q (radR B b t (txP (bkM (B b)) t).2.2.1 0 R2) → rcF Gp (bkC (B b)).isSome B (bkM (B b)) b (bkH (B b)) (f9 + 1) t R fe = (if 400 < (radR B b t (txP (bkM (B b)) t).2.2.1 0 R2).length then (16, R) else rcF Gp (bkC (B b)).isSome B (bkM (B b)) b (bkH (B b)) f9 (t + 1) (radR B b t (txP (bkM (B b)) t).2.2.1 0 R2) fe2) → ks_X l G mX16_connect (d + 13) 383 [(0, .ref 290), (1, .int (nI b)), (2, .ref (bkN (B b))), (3, .ref ((bkN (B b)) + 3)), (4, .long (lN fe2)), (6, .int (nI t))] [] S2 (fun z S' => z = some (.int (nI (rcF Gp (bkC (B b)).isSome B (bkM (B b)) b (bkH (B b)) (f9 + 1) t R fe).1)) ∧ ∃ V' F' R', (sfK ((bkN (B b)) :: LCx) S S' F F' ∧ ∀ k, k ∉ LCf → V' k = V k) ∧ (((rcF Gp (bkC (B b)).isSome B (bkM (B b)) b (bkH (B b)) (f9 + 1) t R fe).1 ≠ 0 ∧ rcnS S' V' F' n B Gp R') ∨ ((rcF Gp (bkC (B b)).isSome B (bkM (B b)) b (bkH (B b)) (f9 + 1) t R fe).1 = 0 ∧ R' = (rcF Gp (bkC (B b)).isSome B (bkM (B b)) b (bkH (B b)) (f9 + 1) t R fe).2 ∧ rcnS S' V' F' n (ckB B b) Gp R'))) := by
      intro fe2 S2 V2 F2 R2 hfe2 K2 C2 hl2 hQ2 er
      refine ks_iconst (x := nI 0) dX16_connect_383 (by decide) rfl ?_
      refine ks_istore dX16_connect_384 (by decide) rfl ?_
      refine ks_sub [(7, _), (0, _), (1, _), (2, _), (3, _), (4, _), (6, _)] rfl ?_
      refine ks_sub [(0, _), (1, _), (2, _), (3, _), (4, _), (6, _), (7, _)] rfl ?_
      refine l_cnAd (S := S) (V := V) (F := F) hb ht (txP (bkM (B b)) t).2.2.1 0 S2 V2 F2 R2 (Nat.zero_add _) (by omega) K2 C2 (fun S3 V3 F3 K3 C3 => ?_)
      obtain ⟨R3, eR3⟩ : ∃ z, z = radR B b t (txP (bkM (B b)) t).2.2.1 0 R2 := ⟨_, rfl⟩
      rw [← eR3] at C3 hQ2 er
      obtain ⟨o3, -, -, -, v523, hRl3, -⟩ := id C3
      refine ks_aload_n dX16_connect_466 rfl rfl ?_
      refine ks_getf (T := TX16) (kf := 52) kx_2420 rfl in_X16 cl_X16 (by decide) o3 rfl dX16_connect_467 rfl ?_
      refine ks_tv v523 ?_
      refine ks_sipush (x := nI 400) dX16_connect_470 (by decide) rfl ?_
      refine ks_icmp_leN (tgt := 479) (by omega) (by decide) dX16_connect_473 (by decide) rfl (fun h5 => ?_) (fun h5 => ?_)
      · rw [if_neg (by omega)] at er
        rw [er]
        refine ks_incN (c := 1) (e := t + 1) dX16_connect_479 rfl (by decide) rfl (by decide) rfl ?_
        refine ks_sub [(6, _), (0, _), (1, _), (2, _), (3, _), (4, _)] rfl ?_
        refine ks_goto (tgt := 18) dX16_connect_482 (by decide) ?_
        exact ks_sub [(0, _), (1, _), (2, _), (3, _), (4, _), (6, _)] rfl (ih (t + 1) fe2 S3 V3 F3 R3 (by omega) hfe2 K3 C3 hQ2 (by omega))
      · refine ks_bipush (x := nI 16) dX16_connect_476 (by decide) rfl ?_
        refine ks_iret rfl dX16_connect_478 ?_
        rw [if_pos (by omega)] at er
        rw [er]
        exact ⟨rfl, V3, F3, R3, ⟨K3.1.mono (fun a ha => List.mem_cons_of_mem _ ha), K3.2⟩, .inl ⟨(show (16 : Nat) ≠ 0 by decide), C3⟩⟩
    refine ks_iload dX16_connect_27 rfl rfl ?_
    refine ks_if_leN (tgt := 383) (by omega) dX16_connect_29 (by decide) rfl (fun h2 => ?_) (fun h2 => ?_)
    · have t0 : t = 0 := by omega
      subst t0
      exact ks_sub [(0, _), (1, _), (2, _), (3, _), (4, _), (6, _)] rfl (tail fe S1 V1 F1 R (by omega) K1 C1 hR4 (hQ0 R hQR hR4) (by rw [rcF, if_pos rfl]))
    · have t0 : 0 < t := by omega
      refine ks_lconst (x := lN 0) dX16_connect_32 (by decide) rfl ?_
      refine ks_lstore dX16_connect_33 (by decide) rfl ?_
      refine ks_sub [(7, _), (0, _), (1, _), (2, _), (3, _), (4, _), (6, _)] rfl ?_
      refine ks_iconst (x := nI 0) dX16_connect_35 (by decide) rfl ?_
      refine ks_istore dX16_connect_36 (by decide) rfl ?_
      refine ks_sub [(9, _), (0, _), (1, _), (2, _), (3, _), (4, _), (6, _), (7, _)] rfl ?_
      refine ks_sub [(0, _), (1, _), (2, _), (3, _), (4, _), (6, _), (7, _), (9, _)] rfl ?_
      refine l_cnIn C1 hb ht (hQv R hQR) (fun i hi => by have := hh9 i hi; omega) (txP (bkM (B b)) t).1 0 0 S1 V1 (Nat.zero_add _) (by omega) (skK.rf o1) (fun S2 V2 s2 sk2 hs2 e2 => ?_) (fun S2 V2 c s2 sk2 e2 hc hc13 => ?_)
      · have C2 := C1.sk sk2
        have K2 := K1.trans (sk2.c (F := F1))
        obtain ⟨tk, hQ2⟩ := hQt t R t0 ht hQR hR4 (by rw [e2])
        refine ks_lconst (x := lN 0) dX16_connect_179 (by decide) rfl ?_
        refine ks_lstore dX16_connect_180 (by decide) rfl ?_
        refine ks_sub [(9, _), (0, _), (1, _), (2, _), (3, _), (4, _), (6, _), (7, _)] rfl ?_
        refine ks_iconst (x := nI 0) dX16_connect_182 (by decide) rfl ?_
        refine ks_istore dX16_connect_183 (by decide) rfl ?_
        refine ks_sub [(11, _), (0, _), (1, _), (2, _), (3, _), (4, _), (6, _), (7, _), (9, _)] rfl ?_
        refine ks_sub [(0, _), (1, _), (2, _), (3, _), (4, _), (6, _), (7, _), (9, _), (11, _)] rfl ?_
        refine l_cnOut C2 hb ht (fun S3 V3 sk3 => ?_) (txP (bkM (B b)) t).2.2.1 0 S2 V2 (Nat.zero_add _) (skK.rf C2.1)
        have C3 := C2.sk sk3
        have K3 := K2.trans (sk3.c (F := F1))
        have hvt := hva t ht
        obtain ⟨ov, eov⟩ : ∃ z, z = vaM (bkM (B b)) t := ⟨_, rfl⟩
        rw [← eov] at hvt ⊢
        refine ks_lload dX16_connect_227 rfl rfl ?_
        refine ks_lload dX16_connect_229 rfl rfl ?_
        refine ks_lif_geN (tgt := 238) (by omega) (by omega) dX16_connect_231 rfl dX16_connect_232 (by decide) rfl (fun h4 => ?_) (fun h4 => ?_)
        · have hq9 : ∀ i, i < (txP (bkM (B b)) t).1 → fiR B (bkM (B b)) t R i ≠ 0 := (fun i hi => fcR_ne (by rw [e2]) i (Nat.zero_le _) (by omega))
          have erc : rcF Gp (bkC (B b)).isSome B (bkM (B b)) b (bkH (B b)) (f9 + 1) t R fe = (if (bkC (B b)).isSome = false ∧ (∃ i, i < (txP (bkM (B b)) t).1 ∧ ukR Gp B (bkM (B b)) t i (R.getD (fiR B (bkM (B b)) t R i - 1) 0) = false) then (14, R) else if 400 < (radR B b t (txP (bkM (B b)) t).2.2.1 0 (tkR B (bkM (B b)) t (txP (bkM (B b)) t).1 0 R)).length then (16, R) else rcF Gp (bkC (B b)).isSome B (bkM (B b)) b (bkH (B b)) f9 (t + 1) (radR B b t (txP (bkM (B b)) t).2.2.1 0 (tkR B (bkM (B b)) t (txP (bkM (B b)) t).1 0 R)) (fe + (s2 - ov))) := by
            rw [rcF, if_neg (by omega), e2]
            rw [if_neg (fun h => h rfl)]
            rw [if_neg (by rw [← eov]; show ¬ s2 < ov; omega), ← eov]
          have from291 : ∀ (S4 : ks_S) (V4 : Nat → Value) (F4 : Nat), cnK S S4 V V4 F F4 → rcnS S4 V4 F4 n B Gp R → ¬ ((bkC (B b)).isSome = false ∧ (∃ i, i < (txP (bkM (B b)) t).1 ∧ ukR Gp B (bkM (B b)) t i (R.getD (fiR B (bkM (B b)) t R i - 1) 0) = false)) → ks_X l G mX16_connect (d + 13) 291 [(0, .ref 290), (1, .int (nI b)), (2, .ref (bkN (B b))), (3, .ref ((bkN (B b)) + 3)), (4, .long (lN (fe + (s2 - ov)))), (6, .int (nI t))] [] S4 (fun z S' => z = some (.int (nI (rcF Gp (bkC (B b)).isSome B (bkM (B b)) b (bkH (B b)) (f9 + 1) t R fe).1)) ∧ ∃ V' F' R', (sfK ((bkN (B b)) :: LCx) S S' F F' ∧ ∀ k, k ∉ LCf → V' k = V k) ∧ (((rcF Gp (bkC (B b)).isSome B (bkM (B b)) b (bkH (B b)) (f9 + 1) t R fe).1 ≠ 0 ∧ rcnS S' V' F' n B Gp R') ∨ ((rcF Gp (bkC (B b)).isSome B (bkM (B b)) b (bkH (B b)) (f9 + 1) t R fe).1 = 0 ∧ R' = (rcF Gp (bkC (B b)).isSome B (bkM (B b)) b (bkH (B b)) (f9 + 1) t R fe).2 ∧ rcnS S' V' F' n (ckB B b) Gp R'))) := by
            intro S4 V4 F4 K4 C4 hok
            rw [if_neg hok] at erc
            refine ks_iconst (x := nI 0) dX16_connect_291 (by decide) rfl ?_
            refine ks_istore dX16_connect_292 (by decide) rfl ?_
            refine ks_sub [(11, _), (0, _), (1, _), (2, _), (3, _), (4, _), (6, _)] rfl ?_
            refine ks_sub [(0, _), (1, _), (2, _), (3, _), (4, _), (6, _), (11, _)] rfl ?_
            refine l_cnTk (S := S) (V := V) (F := F) hb ht (txP (bkM (B b)) t).1 0 S4 V4 F4 R (Nat.zero_add _) K4 C4 tk (fun S5 V5 F5 K5 C5 => ?_)
            have tl := tkR_len (B := B) (M := (bkM (B b))) (t := t) (txP (bkM (B b)) t).1 0 R
            exact tail (fe + (s2 - ov)) S5 V5 F5 _ (by omega) K5 C5 (by omega) hQ2 erc
          refine ks_lload dX16_connect_238 rfl rfl ?_
          refine ks_lload dX16_connect_240 rfl rfl ?_
          refine ks_lload dX16_connect_242 rfl rfl ?_
          refine ks_lsubN (by omega) dX16_connect_244 rfl ?_
          refine ks_laddN dX16_connect_245 rfl ?_
          refine ks_lstore dX16_connect_246 (by decide) rfl ?_
          refine ks_sub [(4, _), (0, _), (1, _), (2, _), (3, _), (6, _), (7, _), (9, _)] rfl ?_
          refine ks_iconst (x := nI 0) dX16_connect_248 (by decide) rfl ?_
          refine ks_istore dX16_connect_249 (by decide) rfl ?_
          refine ks_sub [(11, _), (0, _), (1, _), (2, _), (3, _), (4, _), (6, _), (7, _), (9, _)] rfl ?_
          refine ks_sub [(0, _), (1, _), (2, _), (3, _), (4, _), (6, _), (11, _)] rfl ?_
          by_cases hck : (bkC (B b)).isSome = false
          · refine l_cnUk C3 hb ht hck hq9 (fun S4 V4 F4 K4 C4 hal => ?_) (fun S4 V4 F4 K4 C4 hbad => ?_) (txP (bkM (B b)) t).1 0 S3 V3 F1 (Nat.zero_add _) (cnK.rf _ _ _) C3 (fun j hj => absurd hj (Nat.not_lt_zero _))
            · exact from291 S4 V4 F4 (K3.trans K4) C4 (fun h => by
                obtain ⟨-, j, h1, h2⟩ := h
                rw [hal j h1] at h2
                cases h2)
            · rw [if_pos ⟨hck, hbad⟩] at erc
              rw [erc]
              have K5 := K3.trans K4
              exact ⟨rfl, V4, F4, R, ⟨K5.1.mono (fun a ha => List.mem_cons_of_mem _ ha), K5.2⟩, .inl ⟨(show (14 : Nat) ≠ 0 by decide), C4⟩⟩
          · obtain ⟨o3, mb3, rb3, ⟨f3, e3433, hf3⟩, v523, hRl3, hm3⟩ := id C3
            obtain ⟨⟨bf3, h3413, hbf3⟩, hBB3, hn613⟩ := id rb3
            obtain ⟨ob3, pd3, -, -, bd3⟩ := hBB3 b hb
            obtain ⟨g3, A3, gi3, ⟨ey3, kg3⟩, ⟨hMN3, hN163, hPB3, hP63, hy63⟩, hg3, hbl3, X3, hA3⟩ := id pd3
            have r23 : S3.2.2 (((bkN (B b)) + 3) + 3) = some (kN 12 (A3 2)) := X3.2.1 2 (by decide)
            refine ks_iload dX16_connect_251 rfl rfl ?_
            refine ks_aload_n dX16_connect_253 rfl rfl ?_
            refine ks_getN (T := TX13) (kf := 4) kx_1820 rfl in_X13 cl_X13 (by decide) X3.1 rfl dX16_connect_254 rfl ?_
            refine ks_iload dX16_connect_257 rfl rfl ?_
            refine ks_ialdN (i := t) r23 rfl (by omega) (by decide) dX16_connect_259 rfl ?_
            rw [show A3 2 t = (txP (bkM (B b)) t).1 from (hA3 t ht).2.1.1]
            refine ks_icmp_geN (tgt := 291) (by decide) (by omega) dX16_connect_260 (by decide) rfl (fun h6 => ?_) (fun h6 => ?_)
            · exact ks_sub [(0, _), (1, _), (2, _), (3, _), (4, _), (6, _)] rfl (from291 S3 V3 F1 K3 C3 (fun h => hck h.1))
            · refine ks_aload_n dX16_connect_263 rfl rfl ?_
              refine ks_getN (T := TX12) (kf := 7) kx_2067 rfl in_X12 cl_X12 (by decide) ob3 rfl dX16_connect_264 rfl ?_
              refine ks_if_neZ (tgt := 291) dX16_connect_267 (by decide) rfl (fun h7 => ?_) (fun h7 => ?_)
              · exact ks_sub [(0, _), (1, _), (2, _), (3, _), (4, _), (6, _)] rfl (from291 S3 V3 F1 K3 C3 (fun h => hck h.1))
              · exact absurd h7 hck
        · refine ks_bipush (x := nI 13) dX16_connect_235 (by decide) rfl ?_
          refine ks_iret rfl dX16_connect_237 ?_
          have er : rcF Gp (bkC (B b)).isSome B (bkM (B b)) b (bkH (B b)) (f9 + 1) t R fe = (13, R) := by
            rw [rcF, if_neg (by omega), e2]
            rw [if_neg (fun h => h rfl)]
            exact if_pos (by rw [← eov]; show s2 < ov; omega)
          rw [er]
          exact ⟨rfl, V3, F1, R, ⟨K3.1.mono (fun a ha => List.mem_cons_of_mem _ ha), K3.2⟩, .inl ⟨(show (13 : Nat) ≠ 0 by decide), C3⟩⟩
      · have er : rcF Gp (bkC (B b)).isSome B (bkM (B b)) b (bkH (B b)) (f9 + 1) t R fe = (c, R) := by
          rw [rcF, if_neg (by omega), e2]
          exact if_pos hc
        rw [er]
        have K2 := K1.trans (sk2.c (F := F1))
        exact ⟨rfl, V2, F1, R, ⟨K2.1.mono (fun a ha => List.mem_cons_of_mem _ ha), K2.2⟩, .inl ⟨hc, C1.sk sk2⟩⟩
set_option maxRecDepth 100000 in
set_option maxHeartbeats 800000 in
theorem c_md_connect {l : Launch} {G : ks_G} {d : Nat} {S : ks_S} {V : Nat → Value} {F n b : Nat} {B : Nat → Bk} {Gp : Pt} (hD : rbD n B) (hb : b < n) (hh9 : ∀ i, i < n → bkH (B i) < 700) (hva : ∀ t, t < mg (bkM (B b)) 80 → vaM (bkM (B b)) t ≤ 2100000000000000) (hc0 : 0 < mg (bkM (B b)) 80) {Q : List Nat → Prop} (hQv : ∀ R, Q R → ∀ x ∈ R, rmV B x ≤ 2100000000000000) (hQ0 : ∀ R, Q R → R.length ≤ 400 → Q (radR B b 0 (txP (bkM (B b)) 0).2.2.1 0 R)) (hQt : ∀ t R, 0 < t → t < mg (bkM (B b)) 80 → Q R → R.length ≤ 400 → (fcR B (bkM (B b)) t (bkH (B b)) R (txP (bkM (B b)) t).1 0 0).1 = 0 → tkK B (bkM (B b)) t (txP (bkM (B b)) t).1 0 R ∧ Q (radR B b t (txP (bkM (B b)) t).2.2.1 0 (tkR B (bkM (B b)) t (txP (bkM (B b)) t).1 0 R))) {R : List Nat} (hI : rcnS S V F n B Gp R) (hQR : Q R) (hR4 : R.length ≤ 400) : ks_P l G yX16_connect mX16_connect (d + 13) [.ref 290, .int (nI b)] S (fun z S' => z = some (.int (nI (rcF Gp (bkC (B b)).isSome B (bkM (B b)) b (bkH (B b)) (mg (bkM (B b)) 80) 0 R 0).1)) ∧ ∃ V' F' R', (sfK ((bkN (B b)) :: LCx) S S' F F' ∧ ∀ k, k ∉ LCf → V' k = V k) ∧ (((rcF Gp (bkC (B b)).isSome B (bkM (B b)) b (bkH (B b)) (mg (bkM (B b)) 80) 0 R 0).1 ≠ 0 ∧ rcnS S' V' F' n B Gp R') ∨ ((rcF Gp (bkC (B b)).isSome B (bkM (B b)) b (bkH (B b)) (mg (bkM (B b)) 80) 0 R 0).1 = 0 ∧ R' = (rcF Gp (bkC (B b)).isSome B (bkM (B b)) b (bkH (B b)) (mg (bkM (B b)) 80) 0 R 0).2 ∧ rcnS S' V' F' n (ckB B b) Gp R'))) := by
  obtain ⟨o1, mb1, rb1, ⟨f1, e3431, hf1⟩, v521, hRl1, hm1⟩ := id hI
  obtain ⟨⟨bf1, h3411, hbf1⟩, hBB1, hn611⟩ := id rb1
  obtain ⟨ob1, pd1, -, -, bd1⟩ := hBB1 b hb
  obtain ⟨g1, A1, gi1, ⟨ey1, kg1⟩, ⟨hMN1, hN161, hPB1, hP61, hy61⟩, hg1, hbl1, X1, hA1⟩ := id pd1
  refine ks_of (by decide) rfl rfl (Nat.le_of_ble_eq_true rfl) ?_
  show ks_X l G mX16_connect (d + 13) 0 [(0, .ref 290), (1, .int (nI b))] [] S _
  refine ks_aload_n dX16_connect_0 rfl rfl ?_
  refine ks_getf (T := TX16) (kf := 46) kx_2414 rfl in_X16 cl_X16 (by decide) o1 rfl dX16_connect_1 rfl ?_
  refine ks_iload_n dX16_connect_4 rfl rfl ?_
  refine ks_aaldN (i := b) (b := (bkN (B b))) (by decide) h3411 rfl (by omega) (by decide) (hbf1 b (by omega)) dX16_connect_5 rfl ?_
  refine ks_astore_n dX16_connect_6 (by decide) rfl ?_
  refine ks_sub [(2, _), (0, _), (1, _)] rfl ?_
  refine ks_aload_n dX16_connect_7 rfl rfl ?_
  refine ks_getN (T := TX12) (kf := 3) kx_2063 rfl in_X12 cl_X12 (by decide) ob1 rfl dX16_connect_8 rfl ?_
  refine ks_astore_n dX16_connect_11 (by decide) rfl ?_
  refine ks_sub [(3, _), (0, _), (1, _), (2, _)] rfl ?_
  refine ks_lconst (x := lN 0) dX16_connect_12 (by decide) rfl ?_
  refine ks_lstore dX16_connect_13 (by decide) rfl ?_
  refine ks_sub [(4, _), (0, _), (1, _), (2, _), (3, _)] rfl ?_
  refine ks_iconst (x := nI 0) dX16_connect_15 (by decide) rfl ?_
  refine ks_istore dX16_connect_16 (by decide) rfl ?_
  refine ks_sub [(6, _), (0, _), (1, _), (2, _), (3, _), (4, _)] rfl ?_
  exact ks_sub [(0, _), (1, _), (2, _), (3, _), (4, _), (6, _)] rfl (l_cnLoop hD hb hh9 hva hc0 hQv hQ0 hQt (mg (bkM (B b)) 80) 0 0 S V F R (Nat.zero_add _) (Nat.zero_le _) (cnK.rf _ _ _) hI hQR hR4)
