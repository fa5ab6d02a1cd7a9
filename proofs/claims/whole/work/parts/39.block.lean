/-! BLOCK (b; bytes b + 1, starts b + 2, ids b + 3, hash b + 4) -/
theorem rc_congr {f g : Nat → Nat} {L p most : Nat} (h : ∀ j, j < L → f j = g j) : rc f p L most = rc g p L most := by
  unfold rc
  by_cases e : L ≤ p
  · rw [if_pos e, if_pos e]
  · rw [if_neg e, if_neg e, h p (by omega)]
    by_cases e2 : g p < 253
    · rw [if_pos e2, if_pos e2]
    · rw [if_neg e2, if_neg e2]
      by_cases e3 : p + 3 ≤ L
      · rw [ks_num_congr (g' := g) 2 (p + 1) (p + 1) (fun j hj => h _ (by omega))]
      · rw [if_neg (by omega), if_neg (by omega)]
theorem ip_congr {f g : Nat → Nat} {L p : Nat} (h : ∀ j, j < L → f j = g j) : ∀ k, ip f L p k = ip g L p k
  | 0 => rfl
  | k + 1 => by
    simp only [ip, ip_congr h k]
    cases ip g L p k with
    | none => rfl
    | some a => simp only [rc_congr h]
theorem ot_congr {f g : Nat → Nat} {L p : Nat} (h : ∀ j, j < L → f j = g j) : ∀ k, ot f L p k = ot g L p k
  | 0 => rfl
  | k + 1 => by
    simp only [ot, ot_congr h k]
    cases ot g L p k with
    | none => rfl
    | some a => simp only [rc_congr h]
theorem tx_congr {f g : Nat → Nat} {L b : Nat} (h : ∀ j, j < L → f j = g j) : tx_ f b L = tx_ g b L := by
  simp only [tx_, rc_congr h, ip_congr h, ot_congr h]
/-- where the transactions of a block begin -/
def bs_ (g : Nat → Nat) (n : Nat) : Nat → Option Nat
  | 0 => some 81
  | t + 1 => match bs_ g n t with
    | none => none
    | some a => match tx_ g a n with
      | none => none
      | some (_, _, _, _, e) => some e
theorem bs_congr {f g : Nat → Nat} {n : Nat} (h : ∀ j, j < n → f j = g j) : ∀ t, bs_ f n t = bs_ g n t
  | 0 => rfl
  | t + 1 => by
    simp only [bs_, bs_congr h t]
    cases bs_ g n t with
    | none => rfl
    | some a => simp only [tx_congr h]
/-- whether so many bytes are a block -/
def blk_ (g : Nat → Nat) (n : Nat) : Bool := decide (80 < n ∧ g 80 ≤ 12 ∧ bs_ g n (g 80) = some n)
theorem bs_n {g : Nat → Nat} {n t a : Nat} (h1 : bs_ g n t = some a) (h2 : tx_ g a n = none) : ∀ c, t < c → bs_ g n c = none
  | 0, h => absurd h (Nat.not_lt_zero _)
  | c + 1, h => by
    rcases Nat.lt_or_eq_of_le (Nat.le_of_lt_succ h) with h3 | h3
    · simp only [bs_, bs_n h1 h2 c h3]
    · subst h3; simp only [bs_, h1, h2]
theorem bs_s {g : Nat → Nat} {n t a k p m u e : Nat} (h1 : bs_ g n t = some a) (h2 : tx_ g a n = some (k, p, m, u, e)) : bs_ g n (t + 1) = some e := by simp only [bs_, h1, h2]
def bkX (S : ks_S) (b : Nat) (len cnt par hei : Int32) (wk : Int64) (bad : Bool) (cr : Value) (g1 f2 g3 g4 : Nat → Nat) : Prop := S.2.2 b = some (.inr (3, [.ref (b + 1), .ref (b + 2), .ref (b + 3), .ref (b + 4), .int len, .int cnt, .int par, .int hei, .long wk, .int (ks_bo bad), cr])) ∧ S.2.2 (b + 1) = some (kB 1600 g1) ∧ S.2.2 (b + 2) = some (kN 13 f2) ∧ S.2.2 (b + 3) = some (kB 384 g3) ∧ S.2.2 (b + 4) = some (kB 32 g4) ∧ kO g1 ∧ kO g3 ∧ kO g4 ∧ b + 5 < ks_B ∧ 56 ≤ b
theorem bkX.up {S S1 : ks_S} {b : Nat} {len cnt par hei : Int32} {wk : Int64} {bad : Bool} {cr : Value} {g1 f2 g3 g4 : Nat → Nat} {L : List Nat} (h : bkX S b len cnt par hei wk bad cr g1 f2 g3 g4) (hu : ks_up S S1 L) (hL : ∀ x ∈ L, x < b ∨ b + 4 < x) : bkX S1 b len cnt par hei wk bad cr g1 f2 g3 g4 := by
  have hn : ∀ j, j ≤ 4 → b + j ∉ L := fun j hj hm => by have := hL _ hm; omega
  obtain ⟨a1, a2, a3, a4, a5, a6⟩ := h
  exact ⟨hu.at a1 (hn 0 (by decide)), hu.at a2 (hn 1 (by decide)), hu.at a3 (hn 2 (by decide)), hu.at a4 (hn 3 (by decide)), hu.at a5 (hn 4 (by decide)), a6⟩
abbrev hsO (S : ks_S) : Prop := hs_ok S 7 8 9 10 11 12 13
theorem hs_neO : hs_ne 7 8 9 10 11 12 13 := by unfold hs_ne ks_B; decide
theorem hs_ok.up {S S1 : ks_S} {L : List Nat} (h : hsO S) (hu : ks_up S S1 L) (hn : ∀ x ∈ L, x < 7 ∨ 13 < x) : hsO S1 := by
  have hh : ∀ j, 7 ≤ j → j ≤ 13 → j ∉ L := fun j h1 h2 hm => by have := hn j hm; omega
  obtain ⟨a, ⟨F, b⟩, ⟨f, c⟩, ⟨f2, e⟩, ⟨g1, k1, x1⟩, ⟨g2, k2, x2⟩, ⟨g3, k3, x3⟩⟩ := h
  exact ⟨hu.at a (hh 7 (by decide) (by decide)), ⟨F, hu.at b (hh 8 (by decide) (by decide))⟩, ⟨f, hu.at c (hh 9 (by decide) (by decide))⟩, ⟨f2, hu.at e (hh 10 (by decide) (by decide))⟩, ⟨g1, k1, hu.at x1 (hh 11 (by decide) (by decide))⟩, ⟨g2, k2, hu.at x2 (hh 12 (by decide) (by decide))⟩, ⟨g3, k3, hu.at x3 (hh 13 (by decide) (by decide))⟩⟩
set_option maxRecDepth 100000 in
set_option maxHeartbeats 2000000 in
theorem c_bk_time {l : Launch} {G : ks_G} {d : Nat} {S : ks_S} {b : Nat} {len cnt par hei : Int32} {wk : Int64} {bad : Bool} {cr : Value} {g1 f2 g3 g4 : Nat → Nat} (hX : bkX S b len cnt par hei wk bad cr g1 f2 g3 g4) : ks_P l G yX0_time mX0_time (d + 1) [.ref b] S (fun z S' => z = some (.long (lN (ks_num g1 68 4))) ∧ S' = S) := by
  refine ks_of (by decide) rfl rfl (Nat.le_of_ble_eq_true rfl) ?_
  show ks_X l G mX0_time (d + 1) 0 [(0, .ref b)] [] S _
  refine ks_aload_n dX0_time_0 rfl rfl ?_
  refine ks_getf (T := TX0) (kf := 0) kx_935 rfl in_X0 cl_X0 (by decide) hX.1 rfl dX0_time_1 rfl ?_
  refine ks_bipush (x := nI 68) dX0_time_4 (by decide) rfl ?_
  refine ks_iconst (x := nI 4) dX0_time_6 (by decide) rfl ?_
  refine ks_callS (n := 3) (M' := mX1_number) (c_Buffer_number (d := d) (i := 68) (sz := 4) hX.2.1 hX.2.2.2.2.2.1 (by decide) (by decide) (by decide)) kx_1009 kx_998 kx_2 kx_999 (by decide +kernel) rfl (by decide) (Nat.le_of_ble_eq_true rfl) rfl dX0_time_7 rfl (fun r1 S1 h1 => ?_)
  obtain ⟨rfl, rfl⟩ := h1
  refine ks_lret rfl dX0_time_10 ?_
  exact ⟨rfl, rfl⟩
set_option maxRecDepth 100000 in
set_option maxHeartbeats 2000000 in
theorem c_bk_bits {l : Launch} {G : ks_G} {d : Nat} {S : ks_S} {b : Nat} {len cnt par hei : Int32} {wk : Int64} {bad : Bool} {cr : Value} {g1 f2 g3 g4 : Nat → Nat} (hX : bkX S b len cnt par hei wk bad cr g1 f2 g3 g4) : ks_P l G yX0_bits mX0_bits (d + 1) [.ref b] S (fun z S' => z = some (.int (nI (ks_num g1 72 4))) ∧ S' = S) := by
  refine ks_of (by decide) rfl rfl (Nat.le_of_ble_eq_true rfl) ?_
  show ks_X l G mX0_bits (d + 1) 0 [(0, .ref b)] [] S _
  refine ks_aload_n dX0_bits_0 rfl rfl ?_
  refine ks_getf (T := TX0) (kf := 0) kx_935 rfl in_X0 cl_X0 (by decide) hX.1 rfl dX0_bits_1 rfl ?_
  refine ks_bipush (x := nI 72) dX0_bits_4 (by decide) rfl ?_
  refine ks_iconst (x := nI 4) dX0_bits_6 (by decide) rfl ?_
  refine ks_callS (n := 3) (M' := mX1_number) (c_Buffer_number (d := d) (i := 72) (sz := 4) hX.2.1 hX.2.2.2.2.2.1 (by decide) (by decide) (by decide)) kx_1009 kx_998 kx_2 kx_999 (by decide +kernel) rfl (by decide) (Nat.le_of_ble_eq_true rfl) rfl dX0_bits_7 rfl (fun r1 S1 h1 => ?_)
  obtain ⟨rfl, rfl⟩ := h1
  refine ks_l2iN dX0_bits_10 rfl ?_
  refine ks_iret rfl dX0_bits_11 ?_
  exact ⟨rfl, rfl⟩
/-- the IDs of a block's transactions lie in g -/
def idsOK (g1 f2 g : Nat → Nat) (c : Nat) : Prop := ∀ t, t < c → ∀ j, j < 32 → g (32 * t + j) = twice_ (fun k => g1 (f2 t + k)) (f2 (t + 1) - f2 t) j
set_option maxRecDepth 100000 in
set_option maxHeartbeats 2000000 in
theorem c_nameTx {l : Launch} {G : ks_G} {d : Nat} {S : ks_S} {c : Nat} {b : Nat} {len par hei : Int32} {wk : Int64} {bad : Bool} {cr : Value} {g1 f2 g3 g4 : Nat → Nat} (hX : bkX S b len (nI c) par hei wk bad cr g1 f2 g3 g4) (hc : c ≤ 12) (hf : ∀ t, t < c → f2 t ≤ f2 (t + 1) ∧ f2 (t + 1) ≤ 1600) (hh : hsO S) (hK : ks_stOK S) : ks_P l G yX0_nameTransactions mX0_nameTransactions (d + 5) [.ref b, .ref 7] S (fun z S' => z = none ∧ ks_up S S' [9, 8, 10, 11, 12, b + 3] ∧ hsO S' ∧ ∃ g, kO g ∧ S'.2.2 (b + 3) = some (kB 384 g) ∧ idsOK g1 f2 g c) := by
  have hbB := hX.2.2.2.2.2.2.2.2.1
  have hb56 := hX.2.2.2.2.2.2.2.2.2
  have loop : ∀ q t, t + q = c → ∀ (S1 : ks_S) (g : Nat → Nat), ks_up S S1 [9, 8, 10, 11, 12, b + 3] → hsO S1 → ks_stOK S1 → bkX S1 b len (nI c) par hei wk bad cr g1 f2 g g4 → idsOK g1 f2 g t → ks_X l G mX0_nameTransactions (d + 5) 2 [(0, .ref b), (1, .ref 7), (2, .int (nI t))] [] S1 (fun z S' => z = none ∧ ks_up S S' [9, 8, 10, 11, 12, b + 3] ∧ hsO S' ∧ ∃ g, kO g ∧ S'.2.2 (b + 3) = some (kB 384 g) ∧ idsOK g1 f2 g c) := by
    intro q
    induction q with
    | zero =>
      intro t ht S1 g hu hh1 hK1 hX1 hi
      refine ks_iload_n dX0_nameTransactions_2 rfl rfl ?_
      refine ks_aload_n dX0_nameTransactions_3 rfl rfl ?_
      refine ks_getf (T := TX0) (kf := 5) kx_948 rfl in_X0 cl_X0 (by decide) hX1.1 rfl dX0_nameTransactions_4 rfl ?_
      refine ks_icmp_geN (tgt := 53) (by omega) (by omega) dX0_nameTransactions_7 (by decide) rfl (fun hc => ?_) (fun hc => ?_)
      · refine ks_ret rfl dX0_nameTransactions_53 ?_
        obtain rfl : t = c := by omega
        exact ⟨rfl, hu, hh1, g, hX1.2.2.2.2.2.2.1, hX1.2.2.2.1, hi⟩
      · exact absurd (show c ≤ t by omega) hc
    | succ q ih =>
      intro t ht S1 g hu hh1 hK1 hX1 hi
      refine ks_iload_n dX0_nameTransactions_2 rfl rfl ?_
      refine ks_aload_n dX0_nameTransactions_3 rfl rfl ?_
      refine ks_getf (T := TX0) (kf := 5) kx_948 rfl in_X0 cl_X0 (by decide) hX1.1 rfl dX0_nameTransactions_4 rfl ?_
      refine ks_icmp_geN (tgt := 53) (by omega) (by omega) dX0_nameTransactions_7 (by decide) rfl (fun hq => ?_) (fun hq => ?_)
      · exact absurd hq (by omega)
      · have hf1 := hf t (by omega)
        refine ks_aload_n dX0_nameTransactions_10 rfl rfl ?_
        refine ks_aload_n dX0_nameTransactions_11 rfl rfl ?_
        refine ks_getf (T := TX0) (kf := 0) kx_935 rfl in_X0 cl_X0 (by decide) hX1.1 rfl dX0_nameTransactions_12 rfl ?_
        refine ks_aload_n dX0_nameTransactions_15 rfl rfl ?_
        refine ks_getf (T := TX0) (kf := 1) kx_937 rfl in_X0 cl_X0 (by decide) hX1.1 rfl dX0_nameTransactions_16 rfl ?_
        refine ks_iload_n dX0_nameTransactions_19 rfl rfl ?_
        refine ks_ialdN (i := t) hX1.2.2.1 rfl (by omega) (by decide) dX0_nameTransactions_20 rfl ?_
        refine ks_aload_n dX0_nameTransactions_21 rfl rfl ?_
        refine ks_getf (T := TX0) (kf := 1) kx_937 rfl in_X0 cl_X0 (by decide) hX1.1 rfl dX0_nameTransactions_22 rfl ?_
        refine ks_iload_n dX0_nameTransactions_25 rfl rfl ?_
        refine ks_iconst (x := nI 1) dX0_nameTransactions_26 (by decide) rfl ?_
        refine ks_addN dX0_nameTransactions_27 rfl ?_
        refine ks_ialdN (i := t + 1) hX1.2.2.1 rfl (by omega) (by decide) dX0_nameTransactions_28 rfl ?_
        refine ks_aload_n dX0_nameTransactions_29 rfl rfl ?_
        refine ks_getf (T := TX0) (kf := 1) kx_937 rfl in_X0 cl_X0 (by decide) hX1.1 rfl dX0_nameTransactions_30 rfl ?_
        refine ks_iload_n dX0_nameTransactions_33 rfl rfl ?_
        refine ks_ialdN (i := t) hX1.2.2.1 rfl (by omega) (by decide) dX0_nameTransactions_34 rfl ?_
        refine ks_subN (by omega) dX0_nameTransactions_35 rfl ?_
        refine ks_aload_n dX0_nameTransactions_36 rfl rfl ?_
        refine ks_getf (T := TX0) (kf := 2) kx_939 rfl in_X0 cl_X0 (by decide) hX1.1 rfl dX0_nameTransactions_37 rfl ?_
        refine ks_bipush (x := nI 32) dX0_nameTransactions_40 (by decide) rfl ?_
        refine ks_iload_n dX0_nameTransactions_42 rfl rfl ?_
        refine ks_mulN dX0_nameTransactions_43 rfl ?_
        refine ks_callV (n := 5) (M' := mX6_twice) (c_twice (d := d) (i := f2 t) (n := f2 (t + 1) - f2 t) (oa := 32 * t) hh1 hs_neO hX1.2.1 hX1.2.2.2.2.2.1 (by omega) (by decide) hX1.2.2.2.1 hX1.2.2.2.2.2.2.1 (by omega) (by decide) hK1 (by omega) (by omega) (by omega)) hh1.1 cl_X6 rfl kx_1000 kx_877 kx_878 kx_3 kx_879 (by decide +kernel) rfl (by decide) (Nat.le_of_ble_eq_true rfl) rfl dX0_nameTransactions_44 rfl (fun r2 S2 h2 => ?_)
        obtain ⟨rfl, hu2, hh2, ho2⟩ := h2
        refine ks_incN (c := 1) (e := t + 1) dX0_nameTransactions_47 rfl (by decide) rfl (by decide) rfl ?_
        refine ks_sub [(2, _), (0, _), (1, _)] rfl ?_
        refine ks_goto (tgt := 2) dX0_nameTransactions_50 (by decide) ?_
        have hu3 : ks_up S1 S2 [9, 8, 10, 11, 12, b + 3] := hu2.mono (by intro x hx; simp at hx ⊢; omega)
        have hn : ∀ j, j ≤ 4 → j ≠ 3 → b + j ∉ ([9, 8, 10, 11, 12, b + 3] : List Nat) := fun j h1 h2 => by simp; omega
        refine ks_sub [(0, _), (1, _), (2, _)] rfl (ih (t + 1) (by omega) S2 _ (hu.trans hu3) hh2 (hu3.st hK1 (by intro x hx; simp at hx; rcases hx with h | h | h | h | h | h <;> (rw [h]; first | omega | (unfold ks_B; omega)))) ⟨hu3.at hX1.1 (hn 0 (by decide) (by decide)), hu3.at hX1.2.1 (hn 1 (by decide) (by decide)), hu3.at hX1.2.2.1 (hn 2 (by decide) (by decide)), ho2, hu3.at hX1.2.2.2.2.1 (hn 4 (by decide) (by decide)), hX1.2.2.2.2.2.1, kO_pt (kO_twice _ _) hX1.2.2.2.2.2.2.1 _ _, hX1.2.2.2.2.2.2.2⟩ ?_)
        intro t2 ht2 j hj
        by_cases e : t2 = t
        · subst e
          exact if_pos (by omega) |>.trans (by rw [Nat.add_sub_cancel_left])
        · rw [show ks_pt (twice_ (fun k => g1 (f2 t + k)) (f2 (t + 1) - f2 t)) g (32 * t) 32 (32 * t2 + j) = g (32 * t2 + j) from if_neg (by omega)]
          exact hi t2 (by omega) j hj
  refine ks_of (by decide) rfl rfl (Nat.le_of_ble_eq_true rfl) ?_
  show ks_X l G mX0_nameTransactions (d + 5) 0 [(0, .ref b), (1, .ref 7)] [] S _
  refine ks_iconst (x := nI 0) dX0_nameTransactions_0 (by decide) rfl ?_
  refine ks_istore_n dX0_nameTransactions_1 (by decide) rfl ?_
  refine ks_sub [(2, _), (0, _), (1, _)] rfl ?_
  exact ks_sub [(0, _), (1, _), (2, _)] rfl (loop c 0 (by omega) S g3 (ks_up.rf _ _) hh hK hX (fun t ht => absurd ht (Nat.not_lt_zero t)))
