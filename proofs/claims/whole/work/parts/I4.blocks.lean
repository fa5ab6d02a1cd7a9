/-! THE REFERENCE: a text that was read, kept blocks -/
def pdA (M : List Nat) (A : Nat → Nat → Nat) (gi : Nat → Nat) : Prop := ∀ t, t < mg M 80 → (A 0 t = bsP M t ∧ A 1 t = bsP M (t + 1)) ∧ (A 2 t = (txP M t).1 ∧ A 3 t = (txP M t).2.2.1) ∧ (A 4 t = (txP M t).2.1 ∧ A 5 t = (txP M t).2.2.2.1) ∧ ∀ x, x < 32 → gi (32 * t + x) = idB M t x
theorem pdA_of {M : List Nat} {g gi : Nat → Nat} {A : Nat → Nat → Nat} (h : ∀ j, j < M.length → g j = mg M j) (hb : blk_ (mg M) M.length = true) (hp : ∀ t, t < mg M 80 → prT g M.length A gi t) : pdA M A gi := fun t ht => by
  obtain ⟨k, q, m, u, e, h1, h2, h3, h4, h5, h6, h7, h8⟩ := hp t ht
  obtain ⟨b1, b2, b3, b4, b5, b6⟩ := bk_tx hb ht
  rw [bs_congr h, b1] at h1
  have e0 : A 0 t = bsP M t := (Option.some.inj h1).symm
  rw [tx_congr h, e0, b3] at h2
  have e1 : txP M t = (k, q, m, u, e) := Option.some.inj h2
  rw [e1] at b4 ⊢
  have e2 : e = bsP M (t + 1) := b4
  refine ⟨⟨e0, h3.trans e2⟩, ⟨h4, h5⟩, ⟨h6, h7⟩, fun x hx => ?_⟩
  rw [h8 x hx, e0, e2]
  unfold idB
  rw [twice_congr (m' := fun k => mg M (bsP M t + k)) (fun z hz => h _ (by omega))]
/-- P holds what was read of M in the row y -/
def pdK (S : ks_S) (P y N : Nat) (M : List Nat) : Prop := ∃ g A gi, (S.2.2 y = some (kB N g) ∧ kO g) ∧ (M.length ≤ N ∧ N < 2 ^ 16 ∧ P + 9 < ks_B ∧ 306 ≤ P ∧ 306 ≤ y) ∧ (∀ j, j < M.length → g j = mg M j) ∧ blk_ (mg M) M.length = true ∧ prX S P y (mg M 80) A gi ∧ pdA M A gi
theorem pdK.up {S S1 : ks_S} {P y N : Nat} {M : List Nat} {L : List Nat} (h : pdK S P y N M) (hu : ks_up S S1 L) (hL : ∀ x ∈ L, x ≠ y ∧ (x < P ∨ P + 7 < x)) : pdK S1 P y N M := by
  obtain ⟨g, A, gi, ⟨h1, h2⟩, h3, h4, h5, h6, h7⟩ := h
  exact ⟨g, A, gi, ⟨hu.at h1 (fun hm => (hL _ hm).1 rfl), h2⟩, h3, h4, h5, h6.up hu (fun x hx => (hL x hx).2), h7⟩
theorem pdK.kO {S : ks_S} {P y N : Nat} {M : List Nat} (h : pdK S P y N M) : kO (mg M) := by
  obtain ⟨g, A, gi, ⟨h1, h2⟩, h3, h4, h5, h6, h7⟩ := h
  intro j
  by_cases hj : j < M.length
  · rw [← h4 j hj]; exact h2 j
  · show M.getD j 0 < 256
    rw [List.getD_eq_getElem?_getD, List.getElem?_eq_none (by omega)]
    decide
theorem pdK.bl {S : ks_S} {P y N : Nat} {M : List Nat} (h : pdK S P y N M) : blk_ (mg M) M.length = true := by
  obtain ⟨g, A, gi, -, -, -, h5, -⟩ := h
  exact h5
set_option maxRecDepth 100000 in
set_option maxHeartbeats 800000 in
theorem c_pd_num {l : Launch} {G : ks_G} {d : Nat} {S : ks_S} {P y N i k : Nat} {M : List Nat} (hK : pdK S P y N M) (hi : i + k ≤ M.length) (hk : k ≤ 8) : ks_P l G yX16_number mX16_number d [.ref 290, .ref y, .int (nI i), .int (nI k)] S (fun z S' => z = some (.long (lN (ks_num (mg M) i k))) ∧ S' = S) := by
  obtain ⟨g, A, gi, ⟨ey, kg⟩, ⟨hMN, hN16, hPB, hP6, hy6⟩, hg, hbl, X, hA⟩ := id hK
  rw [← bk_num hg hi]
  exact c_md_number ey kg (by omega) hk (by omega)
set_option maxRecDepth 100000 in
set_option maxHeartbeats 800000 in
theorem c_pd_input {l : Launch} {G : ks_G} {d : Nat} {S : ks_S} {V : Nat → Value} {P y N : Nat} {M : List Nat} (hO : S.2.2 290 = some (rfE V)) (hK : pdK S P y N M) {t i : Nat} (ht : t < mg M 80) (hi : i < (txP M t).1) : ks_P l G yX16_input mX16_input (d + 2) [.ref 290, .ref P, .int (nI t), .int (nI i)] S (fun z S' => z = some (.int (nI (inA M t i))) ∧ ∃ V', skK S S' V V') := by
  obtain ⟨g, A, gi, ⟨ey, kg⟩, ⟨hMN, hN16, hPB, hP6, hy6⟩, hg, hbl, X, hA⟩ := id hK
  have b9 := blk_b hbl
  obtain ⟨b1, b2, b3, b4, b5, b6⟩ := bk_tx hbl ht
  obtain ⟨i1, i2, i3, i4, i5, i6⟩ := tx_in b3 i hi
  have bd := tx_bd b3
  have k40 : (txP M t).1 ≤ 40 := bd.1
  have m180 : (txP M t).2.2.1 ≤ 180 := bd.2.1
  have P5 : S.2.2 (P + 5) = some (kN 12 (A 4)) := X.2.1 4 (by decide)
  exact c_md_input hO X.1 P5 (by omega) (by omega) (hA t ht).2.2.1.1 ey kg hMN hN16 (by omega) ((ip_congr hg i).trans i1)
set_option maxRecDepth 100000 in
set_option maxHeartbeats 800000 in
theorem c_pd_output {l : Launch} {G : ks_G} {d : Nat} {S : ks_S} {V : Nat → Value} {P y N : Nat} {M : List Nat} (hO : S.2.2 290 = some (rfE V)) (hK : pdK S P y N M) {t i : Nat} (ht : t < mg M 80) (hi : i < (txP M t).2.2.1) : ks_P l G yX16_output mX16_output (d + 2) [.ref 290, .ref P, .int (nI t), .int (nI i)] S (fun z S' => z = some (.int (nI (oA (mg M) M.length (txP M t).2.2.2.1 i))) ∧ ∃ V', skK S S' V V') := by
  obtain ⟨g, A, gi, ⟨ey, kg⟩, ⟨hMN, hN16, hPB, hP6, hy6⟩, hg, hbl, X, hA⟩ := id hK
  have b9 := blk_b hbl
  obtain ⟨b1, b2, b3, b4, b5, b6⟩ := bk_tx hbl ht
  obtain ⟨i1, i2, i3, i4, i5⟩ := tx_out b3 i hi
  have bd := tx_bd b3
  have k40 : (txP M t).1 ≤ 40 := bd.1
  have m180 : (txP M t).2.2.1 ≤ 180 := bd.2.1
  have P5 : S.2.2 (P + 6) = some (kN 12 (A 5)) := X.2.1 5 (by decide)
  exact c_md_output hO X.1 P5 (by omega) (by omega) (hA t ht).2.2.1.2 ey kg hMN hN16 (by omega) ((ot_congr hg i).trans i1)
set_option maxRecDepth 100000 in
set_option maxHeartbeats 800000 in
theorem c_pd_scrI {l : Launch} {G : ks_G} {d : Nat} {S : ks_S} {V : Nat → Value} {P y N : Nat} {M : List Nat} (hO : S.2.2 290 = some (rfE V)) (hK : pdK S P y N M) {t i : Nat} (ht : t < mg M 80) (hi : i < (txP M t).1) : ks_P l G yX16_script mX16_script (d + 1) [.ref 290, .ref y, .int (nI (inA M t i + 36))] S (fun z S' => z = some (.int (nI (iS (mg M) M.length (txP M t).2.1 i + iZ (mg M) M.length (txP M t).2.1 i))) ∧ ∃ V', skK S S' V V' ∧ V' 40 = .int (nI (iS (mg M) M.length (txP M t).2.1 i)) ∧ V' 41 = .int (nI (iZ (mg M) M.length (txP M t).2.1 i))) := by
  obtain ⟨g, A, gi, ⟨ey, kg⟩, ⟨hMN, hN16, hPB, hP6, hy6⟩, hg, hbl, X, hA⟩ := id hK
  obtain ⟨b1, b2, b3, b4, b5, b6⟩ := bk_tx hbl ht
  obtain ⟨i1, i2, i3, i4, i5, i6⟩ := tx_in b3 i hi
  exact c_md_script hO ey kg hMN hN16 ((rc_congr hg).trans i2)
set_option maxRecDepth 100000 in
set_option maxHeartbeats 800000 in
theorem c_pd_scrO {l : Launch} {G : ks_G} {d : Nat} {S : ks_S} {V : Nat → Value} {P y N : Nat} {M : List Nat} (hO : S.2.2 290 = some (rfE V)) (hK : pdK S P y N M) {t i : Nat} (ht : t < mg M 80) (hi : i < (txP M t).2.2.1) : ks_P l G yX16_script mX16_script (d + 1) [.ref 290, .ref y, .int (nI (oA (mg M) M.length (txP M t).2.2.2.1 i + 8))] S (fun z S' => z = some (.int (nI (oS (mg M) M.length (txP M t).2.2.2.1 i + oZ (mg M) M.length (txP M t).2.2.2.1 i))) ∧ ∃ V', skK S S' V V' ∧ V' 40 = .int (nI (oS (mg M) M.length (txP M t).2.2.2.1 i)) ∧ V' 41 = .int (nI (oZ (mg M) M.length (txP M t).2.2.2.1 i))) := by
  obtain ⟨g, A, gi, ⟨ey, kg⟩, ⟨hMN, hN16, hPB, hP6, hy6⟩, hg, hbl, X, hA⟩ := id hK
  obtain ⟨b1, b2, b3, b4, b5, b6⟩ := bk_tx hbl ht
  obtain ⟨i1, i2, i3, i4, i5⟩ := tx_out b3 i hi
  exact c_md_script hO ey kg hMN hN16 ((rc_congr hg).trans i2)
abbrev rkO (b : Bk) : ks_E := .inr (15, [.ref (bkN b + 1), .int (nI (bkM b).length), .ref (bkN b + 2), .ref (bkN b + 3), .int (nI (bkH b)), .int (nI (bkP b) - 1), .int (ks_bo (bkD b)), .int (ks_bo (bkC b).isSome), .ref (bkN b + 11)])
/-- a kept block of the reference: names from its own to eleven more -/
def rkK (S : ks_S) (b : Bk) : Prop := S.2.2 (bkN b) = some (rkO b) ∧ pdK S (bkN b + 3) (bkN b + 1) 1600 (bkM b) ∧ (∃ gh, S.2.2 (bkN b + 2) = some (kB 32 gh) ∧ kO gh ∧ ∀ j, j < 32 → gh j = hsB (bkM b) j) ∧ wA S (bkN b + 11) (bkW b) ∧ 565 ≤ bkN b ∧ bkN b + 12 < ks_B
theorem rkK.up {S S1 : ks_S} {b : Bk} {L : List Nat} (h : rkK S b) (hu : ks_up S S1 L) (hL : ∀ x ∈ L, x < bkN b ∨ bkN b + 11 < x) : rkK S1 b := by
  obtain ⟨h1, h2, ⟨gh, h3, h4, h5⟩, h6, h7⟩ := h
  exact ⟨hu.at h1 (fun hm => by have := hL _ hm; omega), h2.up hu (fun x hx => by have := hL x hx; omega), ⟨gh, hu.at h3 (fun hm => by have := hL _ hm; omega), h4, h5⟩, h6.up hu (fun hm => by have := hL _ hm; omega), h7⟩
/-- the reference's kept blocks -/
def rbS (S : ks_S) (n : Nat) (B : Nat → Bk) : Prop := (∃ bf, S.2.2 341 = some (.inl (7, 61, .inr (.inr (.inr (.inr bf))))) ∧ ∀ i, i < n → bf i = some (bkN (B i))) ∧ (∀ i, i < n → rkK S (B i)) ∧ n ≤ 61
theorem rbS.up {S S1 : ks_S} {n : Nat} {B : Nat → Bk} {L : List Nat} (h : rbS S n B) (hu : ks_up S S1 L) (hL : ∀ x ∈ L, x < 565 ∧ x ≠ 341) : rbS S1 n B := by
  obtain ⟨⟨bf, h1, h2⟩, h3, h4⟩ := h
  exact ⟨⟨bf, hu.at h1 (fun hm => (hL _ hm).2 rfl), h2⟩, fun i hi => (h3 i hi).up hu (fun x hx => by have := hL x hx; have := (h3 i hi).2.2.2.2.1; omega), h4⟩
theorem rkK.num {S : ks_S} {b : Bk} (h : rkK S b) : btB (bkM b) < 2 ^ 32 ∧ tmB (bkM b) < 2 ^ 32 := ⟨ks_num_lt h.2.1.kO 4 72, ks_num_lt h.2.1.kO 4 68⟩
/-- heights are those of the parents and one more -/
def rbH (n : Nat) (B : Nat → Bk) : Prop := ∀ i, i < n → bkH (B i) = if bkP (B i) = 0 then 0 else bkH (B (bkP (B i) - 1)) + 1
theorem upN_0 (B : Nat → Bk) (b : Nat) : upN B 0 b = b := rfl
set_option maxRecDepth 100000 in
set_option maxHeartbeats 800000 in
theorem c_md_bitsOf {l : Launch} {G : ks_G} {d : Nat} {S : ks_S} {V : Nat → Value} {n : Nat} {B : Nat → Bk} (hO : S.2.2 290 = some (rfE V)) (hR : rbS S n B) {x : Nat} (hx : x < n) : ks_P l G yX16_bitsOf mX16_bitsOf (d + 1) [.ref 290, .int (nI x)] S (fun z S' => z = some (.long (lN (btB (bkM (B x))))) ∧ S' = S) := by
  obtain ⟨⟨bf, h341, hbf⟩, hB, hn61⟩ := id hR
  obtain ⟨ox, pdx, ⟨ghx, ehx, khx, ahx⟩, wkx, bdx⟩ := hB x (by omega)
  have b9 := blk_b pdx.bl
  refine ks_of (by decide) rfl rfl (Nat.le_of_ble_eq_true rfl) ?_
  show ks_X l G mX16_bitsOf (d + 1) 0 [(0, .ref 290), (1, .int (nI x))] [] S _
  refine ks_aload_n dX16_bitsOf_0 rfl rfl ?_
  refine ks_aload_n dX16_bitsOf_1 rfl rfl ?_
  refine ks_getf (T := TX16) (kf := 46) kx_2414 rfl in_X16 cl_X16 (by decide) hO rfl dX16_bitsOf_2 rfl ?_
  refine ks_iload_n dX16_bitsOf_5 rfl rfl ?_
  refine ks_aaldN (i := x) (b := (bkN (B x))) (by decide) h341 rfl (by omega) (by decide) (hbf x (by omega)) dX16_bitsOf_6 rfl ?_
  refine ks_getN (T := TX12) (kf := 0) kx_2058 rfl in_X12 cl_X12 (by decide) ox rfl dX16_bitsOf_7 rfl ?_
  refine ks_bipush (x := nI 72) dX16_bitsOf_10 (by decide) rfl ?_
  refine ks_iconst (x := nI 4) dX16_bitsOf_12 (by decide) rfl ?_
  refine ks_callV (n := 3) (M' := mX16_number) (c_pd_num (d := d) pdx (i := 72) (k := 4) (by omega) (by decide)) hO cl_X16 rfl kx_2020 kx_2022 kxp_68 kx_30 kx_2023 (by decide +kernel) rfl (by decide) (Nat.le_of_ble_eq_true rfl) rfl dX16_bitsOf_13 rfl (fun z1 T1 y1 => ?_)
  obtain ⟨rfl, hT⟩ := y1
  obtain rfl := hT.symm
  refine ks_lret rfl dX16_bitsOf_16 ?_
  exact ⟨rfl, rfl⟩
set_option maxRecDepth 100000 in
set_option maxHeartbeats 800000 in
theorem c_md_timeOf {l : Launch} {G : ks_G} {d : Nat} {S : ks_S} {V : Nat → Value} {n : Nat} {B : Nat → Bk} (hO : S.2.2 290 = some (rfE V)) (hR : rbS S n B) {x : Nat} (hx : x < n) : ks_P l G yX16_timeOf mX16_timeOf (d + 1) [.ref 290, .int (nI x)] S (fun z S' => z = some (.long (lN (tmB (bkM (B x))))) ∧ S' = S) := by
  obtain ⟨⟨bf, h341, hbf⟩, hB, hn61⟩ := id hR
  obtain ⟨ox, pdx, ⟨ghx, ehx, khx, ahx⟩, wkx, bdx⟩ := hB x (by omega)
  have b9 := blk_b pdx.bl
  refine ks_of (by decide) rfl rfl (Nat.le_of_ble_eq_true rfl) ?_
  show ks_X l G mX16_timeOf (d + 1) 0 [(0, .ref 290), (1, .int (nI x))] [] S _
  refine ks_aload_n dX16_timeOf_0 rfl rfl ?_
  refine ks_aload_n dX16_timeOf_1 rfl rfl ?_
  refine ks_getf (T := TX16) (kf := 46) kx_2414 rfl in_X16 cl_X16 (by decide) hO rfl dX16_timeOf_2 rfl ?_
  refine ks_iload_n dX16_timeOf_5 rfl rfl ?_
  refine ks_aaldN (i := x) (b := (bkN (B x))) (by decide) h341 rfl (by omega) (by decide) (hbf x (by omega)) dX16_timeOf_6 rfl ?_
  refine ks_getN (T := TX12) (kf := 0) kx_2058 rfl in_X12 cl_X12 (by decide) ox rfl dX16_timeOf_7 rfl ?_
  refine ks_bipush (x := nI 68) dX16_timeOf_10 (by decide) rfl ?_
  refine ks_iconst (x := nI 4) dX16_timeOf_12 (by decide) rfl ?_
  refine ks_callV (n := 3) (M' := mX16_number) (c_pd_num (d := d) pdx (i := 68) (k := 4) (by omega) (by decide)) hO cl_X16 rfl kx_2020 kx_2022 kxp_68 kx_30 kx_2023 (by decide +kernel) rfl (by decide) (Nat.le_of_ble_eq_true rfl) rfl dX16_timeOf_13 rfl (fun z1 T1 y1 => ?_)
  obtain ⟨rfl, hT⟩ := y1
  obtain rfl := hT.symm
  refine ks_lret rfl dX16_timeOf_16 ?_
  exact ⟨rfl, rfl⟩
set_option maxRecDepth 100000 in
set_option maxHeartbeats 800000 in
theorem c_md_up {l : Launch} {G : ks_G} {d : Nat} {S : ks_S} {V : Nat → Value} {n : Nat} {B : Nat → Bk} (hO : S.2.2 290 = some (rfE V)) (hR : rbS S n B) {x c : Nat} (hx : x < n) (hW : chW n B) (hH : rbH n B) (hc : c ≤ bkH (B x)) (hc9 : c < 1000) : ks_P l G yX16_up mX16_up d [.ref 290, .int (nI x), .int (nI c)] S (fun z S' => z = some (.int (nI (upN B c x))) ∧ S' = S) := by
  obtain ⟨⟨bf, h341, hbf⟩, hB, hn61⟩ := id hR
  have loop : ∀ (u i b : Nat), i + u = c → b < n → u ≤ bkH (B b) → upN B u b = upN B c x → ks_X l G mX16_up d 5 [(0, .ref 290), (1, .int (nI x)), (2, .int (nI c)), (3, .int (nI b)), (4, .int (nI i))] [] S (fun z S' => z = some (.int (nI (upN B c x))) ∧ S' = S) := by
    intro u
    induction u with
    | zero =>
      intro i b hi hb hu he
      refine ks_iload dX16_up_5 rfl rfl ?_
      refine ks_iload_n dX16_up_7 rfl rfl ?_
      refine ks_icmp_geN (tgt := 27) (by omega) (by omega) dX16_up_8 (by decide) rfl (fun h1 => ?_) (fun h1 => absurd h1 (by omega))
      refine ks_iload_n dX16_up_27 rfl rfl ?_
      refine ks_iret rfl dX16_up_28 ?_
      rw [← he]
      exact ⟨rfl, rfl⟩
    | succ u ih =>
      intro i b hi hb hu he
      refine ks_iload dX16_up_5 rfl rfl ?_
      refine ks_iload_n dX16_up_7 rfl rfl ?_
      refine ks_icmp_geN (tgt := 27) (by omega) (by omega) dX16_up_8 (by decide) rfl (fun h1 => absurd h1 (by omega)) (fun h1 => ?_)
      have hh := hH b hb
      by_cases p0 : bkP (B b) = 0
      · rw [if_pos p0] at hh; omega
      rw [if_neg p0] at hh
      have hp := hW.par hb
      rw [upN, if_neg p0] at he
      obtain ⟨ob, pdb, ⟨ghb, ehb, khb, ahb⟩, wkb, bdb⟩ := hB b (by omega)
      refine ks_aload_n dX16_up_11 rfl rfl ?_
      refine ks_getf (T := TX16) (kf := 46) kx_2414 rfl in_X16 cl_X16 (by decide) hO rfl dX16_up_12 rfl ?_
      refine ks_iload_n dX16_up_15 rfl rfl ?_
      refine ks_aaldN (i := b) (b := (bkN (B b))) (by decide) h341 rfl (by omega) (by decide) (hbf b (by omega)) dX16_up_16 rfl ?_
      refine ks_getN (T := TX12) (kf := 5) kx_2065 rfl in_X12 cl_X12 (by decide) ob rfl dX16_up_17 rfl ?_
      rw [nI_D (by omega : 0 < bkP (B b))]
      refine ks_istore_n dX16_up_20 (by decide) rfl ?_
      refine ks_sub [(3, _), (0, _), (1, _), (2, _), (4, _)] rfl ?_
      refine ks_incN (c := 1) (e := i + 1) dX16_up_21 rfl (by decide) rfl (by decide) rfl ?_
      refine ks_sub [(4, _), (0, _), (1, _), (2, _), (3, _)] rfl ?_
      refine ks_goto (tgt := 5) dX16_up_24 (by decide) ?_
      exact ks_sub [(0, _), (1, _), (2, _), (3, _), (4, _)] rfl (ih (i + 1) (bkP (B b) - 1) (by omega) (by omega) (by omega) he)
  refine ks_of (by decide) rfl rfl (Nat.le_of_ble_eq_true rfl) ?_
  show ks_X l G mX16_up d 0 [(0, .ref 290), (1, .int (nI x)), (2, .int (nI c))] [] S _
  refine ks_iload_n dX16_up_0 rfl rfl ?_
  refine ks_istore_n dX16_up_1 (by decide) rfl ?_
  refine ks_sub [(3, _), (0, _), (1, _), (2, _)] rfl ?_
  refine ks_iconst (x := nI 0) dX16_up_2 (by decide) rfl ?_
  refine ks_istore dX16_up_3 (by decide) rfl ?_
  refine ks_sub [(4, _), (0, _), (1, _), (2, _), (3, _)] rfl ?_
  exact ks_sub [(0, _), (1, _), (2, _), (3, _), (4, _)] rfl (loop c 0 x (by omega) hx hc rfl)
set_option maxRecDepth 100000 in
set_option maxHeartbeats 800000 in
theorem c_md_isIn {l : Launch} {G : ks_G} {d : Nat} {S : ks_S} {V : Nat → Value} {n : Nat} {B : Nat → Bk} (hO : S.2.2 290 = some (rfE V)) (hR : rbS S n B) {x c : Nat} (hx : x < n) (hW : chW n B) (hc : c < n) : ks_P l G yX16_isIn mX16_isIn d [.ref 290, .int (nI x), .int (nI c)] S (fun z S' => z = some (.int (ks_bo (decide (stL B x n c = x)))) ∧ S' = S) := by
  obtain ⟨⟨bf, h341, hbf⟩, hB, hn61⟩ := id hR
  have loop : ∀ (u b : Nat), b ≤ u → b < n → stL B x u b = stL B x n c → ks_X l G mX16_isIn d 2 [(0, .ref 290), (1, .int (nI x)), (2, .int (nI c)), (3, .int (nI b))] [] S (fun z S' => z = some (.int (ks_bo (decide (stL B x n c = x)))) ∧ S' = S) := by
    intro u
    induction u with
    | zero =>
      intro b hu hb he
      refine ks_iload_n dX16_isIn_2 rfl rfl ?_
      refine ks_iload_n dX16_isIn_3 rfl rfl ?_
      refine ks_icmp_leN (tgt := 20) (by omega) (by omega) dX16_isIn_4 (by decide) rfl (fun h1 => ?_) (fun h1 => absurd h1 (by omega))
      refine ks_iload_n dX16_isIn_20 rfl rfl ?_
      refine ks_iload_n dX16_isIn_21 rfl rfl ?_
      refine ks_icmp_neN (tgt := 29) (by omega) (by omega) dX16_isIn_22 (by decide) rfl (fun h4 => ?_) (fun h4 => ?_)
      · refine ks_iconst (x := nI 0) dX16_isIn_29 (by decide) rfl ?_
        refine ks_zret rfl rfl dX16_isIn_30 ?_
        rw [← he, show stL B x 0 b = b from rfl, decide_eq_false (p := b = x) (by omega)]
        exact ⟨rfl, rfl⟩
      · refine ks_iconst (x := nI 1) dX16_isIn_25 (by decide) rfl ?_
        refine ks_goto (tgt := 30) dX16_isIn_26 (by decide) ?_
        refine ks_zret rfl rfl dX16_isIn_30 ?_
        rw [← he, show stL B x 0 b = b from rfl, decide_eq_true (p := b = x) (by omega)]
        exact ⟨rfl, rfl⟩
    | succ u ih =>
      intro b hu hb he
      refine ks_iload_n dX16_isIn_2 rfl rfl ?_
      refine ks_iload_n dX16_isIn_3 rfl rfl ?_
      refine ks_icmp_leN (tgt := 20) (by omega) (by omega) dX16_isIn_4 (by decide) rfl (fun h1 => ?_) (fun h1 => ?_)
      · refine ks_iload_n dX16_isIn_20 rfl rfl ?_
        refine ks_iload_n dX16_isIn_21 rfl rfl ?_
        refine ks_icmp_neN (tgt := 29) (by omega) (by omega) dX16_isIn_22 (by decide) rfl (fun h4 => ?_) (fun h4 => ?_)
        · refine ks_iconst (x := nI 0) dX16_isIn_29 (by decide) rfl ?_
          refine ks_zret rfl rfl dX16_isIn_30 ?_
          rw [← he, stL, if_neg (show ¬ x < b by omega), decide_eq_false (p := b = x) (by omega)]
          exact ⟨rfl, rfl⟩
        · refine ks_iconst (x := nI 1) dX16_isIn_25 (by decide) rfl ?_
          refine ks_goto (tgt := 30) dX16_isIn_26 (by decide) ?_
          refine ks_zret rfl rfl dX16_isIn_30 ?_
          rw [← he, stL, if_neg (show ¬ x < b by omega), decide_eq_true (p := b = x) (by omega)]
          exact ⟨rfl, rfl⟩
      · have hw := hW.2 b (by omega) hb
        rw [stL, if_pos (by omega)] at he
        obtain ⟨ob, pdb, ⟨ghb, ehb, khb, ahb⟩, wkb, bdb⟩ := hB b (by omega)
        refine ks_aload_n dX16_isIn_7 rfl rfl ?_
        refine ks_getf (T := TX16) (kf := 46) kx_2414 rfl in_X16 cl_X16 (by decide) hO rfl dX16_isIn_8 rfl ?_
        refine ks_iload_n dX16_isIn_11 rfl rfl ?_
        refine ks_aaldN (i := b) (b := (bkN (B b))) (by decide) h341 rfl (by omega) (by decide) (hbf b (by omega)) dX16_isIn_12 rfl ?_
        refine ks_getN (T := TX12) (kf := 5) kx_2065 rfl in_X12 cl_X12 (by decide) ob rfl dX16_isIn_13 rfl ?_
        rw [nI_D (by omega : 0 < bkP (B b))]
        refine ks_istore_n dX16_isIn_16 (by decide) rfl ?_
        refine ks_sub [(3, _), (0, _), (1, _), (2, _)] rfl ?_
        refine ks_goto (tgt := 2) dX16_isIn_17 (by decide) ?_
        exact ks_sub [(0, _), (1, _), (2, _), (3, _)] rfl (ih (bkP (B b) - 1) (by omega) (by omega) he)
  refine ks_of (by decide) rfl rfl (Nat.le_of_ble_eq_true rfl) ?_
  show ks_X l G mX16_isIn d 0 [(0, .ref 290), (1, .int (nI x)), (2, .int (nI c))] [] S _
  refine ks_iload_n dX16_isIn_0 rfl rfl ?_
  refine ks_istore_n dX16_isIn_1 (by decide) rfl ?_
  refine ks_sub [(3, _), (0, _), (1, _), (2, _)] rfl ?_
  exact ks_sub [(0, _), (1, _), (2, _), (3, _)] rfl (loop n c (by omega) hc rfl)
theorem sm32_dq {p : Prop} [Decidable p] {g h : Nat → Nat} {a b : Nat} (hp : p ↔ ∀ j, j < 32 → g (a + j) = h (b + j)) : decide p = sm32 g a h b := by
  rw [Bool.eq_iff_iff, decide_eq_true_eq, sm32_iff]
  exact hp
theorem sm32_cg {g h g' h' : Nat → Nat} {a b a' b' : Nat} (h1 : ∀ j, j < 32 → g (a + j) = g' (a' + j)) (h2 : ∀ j, j < 32 → h (b + j) = h' (b' + j)) : sm32 g a h b = sm32 g' a' h' b' := by
  rw [Bool.eq_iff_iff, sm32_iff, sm32_iff]
  exact ⟨fun q j hj => by rw [← h1 j hj, ← h2 j hj]; exact q j hj, fun q j hj => by rw [h1 j hj, h2 j hj]; exact q j hj⟩
theorem c_md_alike32 {l : Launch} {G : ks_G} {d : Nat} {S : ks_S} {x y Nx Ny i k : Nat} {gx gy : Nat → Nat} (hx : S.2.2 x = some (kB Nx gx)) (kx9 : kO gx) (hy : S.2.2 y = some (kB Ny gy)) (ky9 : kO gy) (hi : i + 32 ≤ Nx) (hk : k + 32 ≤ Ny) (hNx : Nx < 2 ^ 28) (hNy : Ny < 2 ^ 28) : ks_P l G yX16_alike mX16_alike d [.ref x, .int (nI i), .ref y, .int (nI k), .int (nI 32)] S (fun z S' => z = some (.int (ks_bo (sm32 gx i gy k))) ∧ S' = S) := (c_md_alike (n := 32) hx kx9 hy ky9 hi hk hNx hNy).mono (fun z S' h => ⟨h.1.trans (congrArg (fun b => some (Value.int (ks_bo b))) (sm32_dq Iff.rfl)), h.2⟩)
set_option maxRecDepth 100000 in
set_option maxHeartbeats 800000 in
theorem c_md_findBlock {l : Launch} {G : ks_G} {d : Nat} {S : ks_S} {V : Nat → Value} {n : Nat} {B : Nat → Bk} (hO : S.2.2 290 = some (rfE V)) (hR : rbS S n B) {y N a : Nat} {gy : Nat → Nat} (hV : V 47 = .int (nI n)) (hy : S.2.2 y = some (kB N gy)) (kgy : kO gy) (ha : a + 32 ≤ N) (hN : N < 2 ^ 28) : ks_P l G yX16_findBlock mX16_findBlock (d + 1) [.ref 290, .ref y, .int (nI a)] S (fun z S' => z = some (.int (nI (plD (fun i => sm32 (hsB (bkM (B i))) 0 (fun j => gy (a + j)) 0) n 0) - 1)) ∧ S' = S) := by
  obtain ⟨⟨bf, h341, hbf⟩, hB, hn61⟩ := id hR
  have loop : ∀ (u b : Nat), b + u = n → plD (fun i => sm32 (hsB (bkM (B i))) 0 (fun j => gy (a + j)) 0) u b = plD (fun i => sm32 (hsB (bkM (B i))) 0 (fun j => gy (a + j)) 0) n 0 → ks_X l G mX16_findBlock (d + 1) 2 [(0, .ref 290), (1, .ref y), (2, .int (nI a)), (3, .int (nI b))] [] S (fun z S' => z = some (.int (nI (plD (fun i => sm32 (hsB (bkM (B i))) 0 (fun j => gy (a + j)) 0) n 0) - 1)) ∧ S' = S) := by
    intro u
    induction u with
    | zero =>
      intro b hi he
      refine ks_iload_n dX16_findBlock_2 rfl rfl ?_
      refine ks_aload_n dX16_findBlock_3 rfl rfl ?_
      refine ks_getf (T := TX16) (kf := 47) kx_2415 rfl in_X16 cl_X16 (by decide) hO rfl dX16_findBlock_4 rfl ?_
      refine ks_tv hV ?_
      refine ks_icmp_geN (tgt := 38) (by omega) (by omega) dX16_findBlock_7 (by decide) rfl (fun h1 => ?_) (fun h1 => absurd h1 (by omega))
      refine ks_iconst (x := (-1)) dX16_findBlock_38 (by decide) rfl ?_
      refine ks_iret rfl dX16_findBlock_39 ?_
      rw [← he]
      exact ⟨rfl, rfl⟩
    | succ u ih =>
      intro b hi he
      refine ks_iload_n dX16_findBlock_2 rfl rfl ?_
      refine ks_aload_n dX16_findBlock_3 rfl rfl ?_
      refine ks_getf (T := TX16) (kf := 47) kx_2415 rfl in_X16 cl_X16 (by decide) hO rfl dX16_findBlock_4 rfl ?_
      refine ks_tv hV ?_
      refine ks_icmp_geN (tgt := 38) (by omega) (by omega) dX16_findBlock_7 (by decide) rfl (fun h1 => absurd h1 (by omega)) (fun h1 => ?_)
      obtain ⟨ob, pdb, ⟨ghb, ehb, khb, ahb⟩, wkb, bdb⟩ := hB b (by omega)
      refine ks_aload_n dX16_findBlock_10 rfl rfl ?_
      refine ks_getf (T := TX16) (kf := 46) kx_2414 rfl in_X16 cl_X16 (by decide) hO rfl dX16_findBlock_11 rfl ?_
      refine ks_iload_n dX16_findBlock_14 rfl rfl ?_
      refine ks_aaldN (i := b) (b := (bkN (B b))) (by decide) h341 rfl (by omega) (by decide) (hbf b (by omega)) dX16_findBlock_15 rfl ?_
      refine ks_getN (T := TX12) (kf := 2) kx_2061 rfl in_X12 cl_X12 (by decide) ob rfl dX16_findBlock_16 rfl ?_
      refine ks_iconst (x := nI 0) dX16_findBlock_19 (by decide) rfl ?_
      refine ks_aload_n dX16_findBlock_20 rfl rfl ?_
      refine ks_iload_n dX16_findBlock_21 rfl rfl ?_
      refine ks_bipush (x := nI 32) dX16_findBlock_22 (by decide) rfl ?_
      refine ks_callS (n := 5) (M' := mX16_alike) (c_md_alike32 (d := d) ehb khb hy kgy (i := 0) (k := a) (by decide) ha (by decide) hN) kx_2134 kx_2135 kx_30 kx_2136 (by decide +kernel) rfl (by decide) (Nat.le_of_ble_eq_true rfl) rfl dX16_findBlock_24 rfl (fun z1 T1 y1 => ?_)
      obtain ⟨rfl, hT⟩ := y1
      obtain rfl := hT.symm
      have es : sm32 ghb 0 gy a = sm32 (hsB (bkM (B b))) 0 (fun j => gy (a + j)) 0 := sm32_cg (fun j hj => by rw [Nat.zero_add]; exact ahb j hj) (fun j hj => by rw [Nat.zero_add])
      rw [es]
      rw [plD] at he
      refine ks_if_eqZ (tgt := 32) dX16_findBlock_27 (by decide) rfl (fun h2 => ?_) (fun h2 => ?_)
      · rw [if_neg (by rw [h2]; decide)] at he
        refine ks_incN (c := 1) (e := b + 1) dX16_findBlock_32 rfl (by decide) rfl (by decide) rfl ?_
        refine ks_sub [(3, _), (0, _), (1, _), (2, _)] rfl ?_
        refine ks_goto (tgt := 2) dX16_findBlock_35 (by decide) ?_
        exact ks_sub [(0, _), (1, _), (2, _), (3, _)] rfl (ih (b + 1) (by omega) he)
      · rw [if_pos h2] at he
        refine ks_iload_n dX16_findBlock_30 rfl rfl ?_
        refine ks_iret rfl dX16_findBlock_31 ?_
        rw [← he, nI_pred]
        exact ⟨rfl, rfl⟩
  refine ks_of (by decide) rfl rfl (Nat.le_of_ble_eq_true rfl) ?_
  show ks_X l G mX16_findBlock (d + 1) 0 [(0, .ref 290), (1, .ref y), (2, .int (nI a))] [] S _
  refine ks_iconst (x := nI 0) dX16_findBlock_0 (by decide) rfl ?_
  refine ks_istore_n dX16_findBlock_1 (by decide) rfl ?_
  refine ks_sub [(3, _), (0, _), (1, _), (2, _)] rfl ?_
  exact ks_sub [(0, _), (1, _), (2, _), (3, _)] rfl (loop n 0 (by omega) rfl)
