/-! TARGET: comparing, doubling, taking out -/
theorem tg_ok.up {S S1 : ks_S} {N : Nat} {L : List Nat} (h : tg_ok S N) (hu : ks_up S S1 L) (h0 : 44 ∉ L) (h1 : 45 ∉ L) (h2 : 46 ∈ L → ∃ g, kO g ∧ S1.2.2 46 = some (kB 34 g)) (h3 : 47 ∈ L → ∃ g, kO g ∧ S1.2.2 47 = some (kB 34 g)) : tg_ok S1 N := by
  obtain ⟨a, ⟨g, b, c, e⟩, ⟨g2, b2, c2⟩, ⟨g3, b3, c3⟩⟩ := h
  refine ⟨hu.at a h0, ⟨g, b, hu.at c h1, e⟩, ?_, ?_⟩
  · by_cases e2 : 46 ∈ L
    · exact h2 e2
    · exact ⟨g2, b2, hu.at c2 e2⟩
  · by_cases e2 : 47 ∈ L
    · exact h3 e2
    · exact ⟨g3, b3, hu.at c3 e2⟩
/-- a borrow: 0 or -1 -/
def ks_ng (c : Nat) : Int32 := if c = 0 then 0 else -1
theorem bw_neg : ∀ n, n < 257 → 0 < n → ks_by (-(nI n)) = (256 - n) % 256 ∧ (-(nI n)) >>> (nI 8 &&& 31) = -1 := by decide +kernel
theorem bw_x {c a b : Nat} (hc : c ≤ 1) (ha : a < 256) (hb : b < 256) : ks_ng c + (nI a - nI b) = if b + c ≤ a then nI (a - b - c) else -(nI (b + c - a)) := by
  have e1 : ∀ x y : Nat, x ≤ y → nI x - nI y = -(nI (y - x)) := fun x y h => by rw [← pk_sub h, Int32.neg_sub]
  rcases Nat.eq_zero_or_pos c with h | h
  · subst h
    show (0 : Int32) + _ = _
    rw [Int32.zero_add]
    by_cases h1 : b + 0 ≤ a
    · rw [if_pos h1, pk_sub (b := b) (by omega)]; rfl
    · rw [if_neg h1, e1 a b (by omega)]; rfl
  · obtain rfl : c = 1 := by omega
    show (-1 : Int32) + _ = _
    by_cases h1 : b + 1 ≤ a
    · rw [if_pos h1, pk_sub (by omega), show a - b = (a - b - 1) + 1 by omega, Int32.add_comm]
      exact pk_m1 _
    · rw [if_neg h1]
      have e2 : nI a - nI b = -(nI (b - a)) := by
        by_cases h2 : a ≤ b
        · exact e1 a b h2
        · omega
      rw [e2, show b + 1 - a = (b - a) + 1 by omega, ← nI_1, Int32.neg_add, Int32.add_comm]
      rw [Int32.sub_eq_add_neg]
theorem bw_by {c a b : Nat} (hc : c ≤ 1) (ha : a < 256) (hb : b < 256) : ks_by (ks_ng c + (nI a - nI b)) = (a + 256 - b - c) % 256 := by
  rw [bw_x hc ha hb]
  by_cases h : b + c ≤ a
  · rw [if_pos h, ks_by_nI]; omega
  · rw [if_neg h, (bw_neg _ (by omega) (by omega)).1]; omega
theorem bw_sh {c a b : Nat} (hc : c ≤ 1) (ha : a < 256) (hb : b < 256) : (ks_ng c + (nI a - nI b)) >>> (nI 8 &&& 31) = ks_ng (if a < b + c then 1 else 0) := by
  rw [bw_x hc ha hb]
  by_cases h : b + c ≤ a
  · rw [if_pos h, if_neg (by omega), pk_shrN (by omega) _ 8 (by decide), Nat.div_eq_of_lt (by omega)]; rfl
  · rw [if_neg h, (bw_neg _ (by omega) (by omega)).2, if_pos (by omega)]; rfl
theorem dg_bw {B : Nat} {ou : Nat → Nat} {i c r v R V : Nat} (h : dg B ou i + V = R + B ^ i * c) (hr : r < B) (hv : v < B) (hc : c ≤ 1) (ho : ou i = (r + B - v - c) % B) : dg B ou (i + 1) + (V + v * B ^ i) = R + r * B ^ i + B ^ (i + 1) * (if r < v + c then 1 else 0) := by
  rw [dg_s, ho, Nat.pow_succ]
  by_cases h1 : r < v + c
  · rw [if_pos h1, Nat.mod_eq_of_lt (by omega)]
    have e : r + B = (r + B - v - c) + v + c := by omega
    generalize r + B - v - c = x at e
    have e2 : (r + B) * B ^ i = (x + v + c) * B ^ i := by rw [e]
    grind
  · rw [if_neg h1, show r + B - v - c = (r - v - c) + B by omega, Nat.add_mod_right, Nat.mod_eq_of_lt (by omega)]
    have e : r = (r - v - c) + v + c := by omega
    generalize r - v - c = x at e
    subst e
    grind
set_option maxRecDepth 100000 in
set_option maxHeartbeats 40000000 in
theorem c_reached {l : Launch} {G : ks_G} {d : Nat} {S : ks_S} {h Nh N : Nat} {gh : Nat → Nat} (hT : tg_ok S N) (hN : N < 256 ^ 32) (hh : S.2.2 h = some (kB Nh gh)) (hg : kO gh) (hn : 32 ≤ Nh) (hn2 : Nh < 2 ^ 31) : ks_P l G yX9_isReachedBy mX9_isReachedBy d [.ref 44, .ref h] S (fun z S' => z = some (.int (ks_bo (decide (dg 256 gh 32 ≤ N)))) ∧ S' = S) := by
  obtain ⟨gv, hgv, hv, hd⟩ := hT.2.1
  have e32 : dg 256 gv 32 = N := by rw [← dg_mod (n := 34) (fun k _ => hgv k) (by decide), hd]; exact Nat.mod_eq_of_lt hN
  have loop : ∀ k, k ≤ 32 → (∀ j, k ≤ j → j < 32 → gh j = gv j) → ks_X l G mX9_isReachedBy d 3 [(2, .int (nI k - 1)), (0, .ref 44), (1, .ref h)] [] S (fun z S' => z = some (.int (ks_bo (decide (dg 256 gh 32 ≤ N)))) ∧ S' = S) := by
    intro k
    induction k with
    | zero =>
      intro _ hj
      refine ks_iload_n dX9_isReachedBy_3 rfl rfl ?_
      refine ks_if_lt (tgt := 51) dX9_isReachedBy_4 (by decide) rfl (fun hc => ?_) (fun hc => ?_)
      · refine ks_iconst (x := nI 1) dX9_isReachedBy_51 (by decide) rfl ?_
        refine ks_zret rfl rfl dX9_isReachedBy_52 ?_
        refine ⟨?_, rfl⟩
        rw [decide_eq_true (by rw [← e32, dg_congr (fun k hk => hj k (Nat.zero_le _) hk)]; exact Nat.le_refl _)]
        rfl
      · exact absurd (by decide) hc
    | succ k ih =>
      intro hk hj
      rw [nI_pred]
      refine ks_iload_n dX9_isReachedBy_3 rfl rfl ?_
      refine ks_if_ltN (tgt := 51) (by omega) dX9_isReachedBy_4 (by decide) rfl ?_
      refine ks_aload_n dX9_isReachedBy_7 rfl rfl ?_
      refine ks_iload_n dX9_isReachedBy_8 rfl rfl ?_
      refine ks_baldB (i := k) hh rfl (by omega) (by omega) dX9_isReachedBy_9 rfl ?_
      refine ks_aload_n dX9_isReachedBy_10 rfl rfl ?_
      refine ks_getf (T := TX9) (kf := 0) kx_719 rfl in_X9 cl_X9 (by decide) hT.1 rfl dX9_isReachedBy_11 rfl ?_
      refine ks_iload_n dX9_isReachedBy_14 rfl rfl ?_
      refine ks_baldB (i := k) hv rfl (by omega) (by decide) dX9_isReachedBy_15 rfl ?_
      refine ks_icmp_eqY (tgt := 45) (hg _) (hgv _) dX9_isReachedBy_16 (by decide) rfl (fun he => ?_) (fun he => ?_)
      · refine ks_incD dX9_isReachedBy_45 rfl (by decide) (by decide) rfl ?_
        refine ks_sub [(2, _), (0, _), (1, _)] rfl ?_
        refine ks_goto (tgt := 3) dX9_isReachedBy_48 (by decide) ?_
        refine ks_sub [(2, _), (0, _), (1, _)] rfl (ih (by omega) ?_)
        intro j h1 h2
        by_cases e : j = k
        · rw [e]; exact he
        · exact hj j (by omega) h2
      · refine ks_aload_n dX9_isReachedBy_19 rfl rfl ?_
        refine ks_iload_n dX9_isReachedBy_20 rfl rfl ?_
        refine ks_baldB (i := k) hh rfl (by omega) (by omega) dX9_isReachedBy_21 rfl ?_
        refine ks_sipush (x := nI 255) dX9_isReachedBy_22 (by decide) rfl ?_
        refine ks_andB (hg _) dX9_isReachedBy_25 rfl ?_
        have hy25 : gh k < 256 := (hg _)
        refine ks_aload_n dX9_isReachedBy_26 rfl rfl ?_
        refine ks_getf (T := TX9) (kf := 0) kx_719 rfl in_X9 cl_X9 (by decide) hT.1 rfl dX9_isReachedBy_27 rfl ?_
        refine ks_iload_n dX9_isReachedBy_30 rfl rfl ?_
        refine ks_baldB (i := k) hv rfl (by omega) (by decide) dX9_isReachedBy_31 rfl ?_
        refine ks_sipush (x := nI 255) dX9_isReachedBy_32 (by decide) rfl ?_
        refine ks_andB (hgv _) dX9_isReachedBy_35 rfl ?_
        have hy35 : gv k < 256 := (hgv _)
        refine ks_icmp_geN (tgt := 43) (by omega) (by omega) dX9_isReachedBy_36 (by decide) rfl (fun hc36 => ?_) (fun hc36 => ?_)
        · refine ks_iconst (x := nI 0) dX9_isReachedBy_43 (by decide) rfl ?_
          refine ks_zret rfl rfl dX9_isReachedBy_44 ?_
          refine ⟨?_, rfl⟩
          rw [decide_eq_false (by rw [← e32]; exact Nat.not_le.mpr (dg_cmp (j := k) (by omega) (fun q q1 q2 => (hj q q1 q2).symm) (fun q _ => hgv q) (by omega)))]
          rfl
        · refine ks_iconst (x := nI 1) dX9_isReachedBy_39 (by decide) rfl ?_
          refine ks_goto (tgt := 44) dX9_isReachedBy_40 (by decide) ?_
          refine ks_zret rfl rfl dX9_isReachedBy_44 ?_
          refine ⟨?_, rfl⟩
          rw [decide_eq_true (by rw [← e32]; exact Nat.le_of_lt (dg_cmp (j := k) (by omega) (fun q q1 q2 => hj q q1 q2) (fun q _ => hg q) (by omega)))]
          rfl
  refine ks_of (by decide) rfl rfl (Nat.le_of_ble_eq_true rfl) ?_
  show ks_X l G mX9_isReachedBy d 0 [(0, .ref 44), (1, .ref h)] [] S _
  refine ks_bipush (x := nI 31) dX9_isReachedBy_0 (by decide) rfl ?_
  refine ks_istore_n dX9_isReachedBy_2 (by decide) rfl ?_
  refine ks_sub [(2, _), (0, _), (1, _)] rfl ?_
  exact ks_sub _ rfl (loop 32 (by decide) (fun j h1 h2 => by omega))
set_option maxRecDepth 100000 in
set_option maxHeartbeats 40000000 in
theorem c_doubleRest {l : Launch} {G : ks_G} {d : Nat} {S : ks_S} {N R : Nat} {gr : Nat → Nat} (hT : tg_ok S N) (hr : S.2.2 47 = some (kB 34 gr)) (hg : kO gr) (hR : dg 256 gr 34 = R) (hR2 : 2 * R < 256 ^ 34) : ks_P l G yX9_doubleRest mX9_doubleRest d [.ref 44] S (fun z S' => z = none ∧ ks_up S S' [47] ∧ ∃ g, kO g ∧ S'.2.2 47 = some (kB 34 g) ∧ dg 256 g 34 = 2 * R) := by
  have loop : ∀ k i, i + k = 34 → ∀ (S1 : ks_S) (g : Nat → Nat) (c : Nat), ks_up S S1 [47] → S1.2.2 47 = some (kB 34 g) → kO g → c ≤ 1 → (∀ j, i ≤ j → g j = gr j) → dg 256 g i + 256 ^ i * c = dg 256 gr i * 2 → ks_X l G mX9_doubleRest d 4 [(2, .int (nI i)), (1, .int (nI c)), (0, .ref 44)] [] S1 (fun z S' => z = none ∧ ks_up S S' [47] ∧ ∃ g, kO g ∧ S'.2.2 47 = some (kB 34 g) ∧ dg 256 g 34 = 2 * R) := by
    intro k
    induction k with
    | zero =>
      intro i hi S1 g c hu h47 hg hc1 hj hd
      have h44 := hu.at hT.1 (by decide)
      refine ks_iload_n dX9_doubleRest_4 rfl rfl ?_
      refine ks_bipush (x := nI 34) dX9_doubleRest_5 (by decide) rfl ?_
      refine ks_icmp_geN (tgt := 44) (by omega) (by decide) dX9_doubleRest_7 (by decide) rfl (fun hc => ?_) (fun hc => ?_)
      · refine ks_ret rfl dX9_doubleRest_44 ?_
        obtain rfl : i = 34 := by omega
        rw [hR] at hd
        refine ⟨rfl, hu, g, hg, h47, ?_⟩
        rcases Nat.eq_zero_or_pos c with e | e
        · rw [e] at hd; omega
        · obtain rfl : c = 1 := by omega
          omega
      · exact absurd (show 34 ≤ i by omega) hc
    | succ k ih =>
      intro i hi S1 g c hu h47 hg hc1 hj hd
      have h44 := hu.at hT.1 (by decide)
      refine ks_iload_n dX9_doubleRest_4 rfl rfl ?_
      refine ks_bipush (x := nI 34) dX9_doubleRest_5 (by decide) rfl ?_
      refine ks_icmp_geN (tgt := 44) (by omega) (by decide) dX9_doubleRest_7 (by decide) rfl (fun hc => ?_) (fun hc => ?_)
      · exact absurd hc (by omega)
      · have hb9 := hg i
        refine ks_iload_n dX9_doubleRest_10 rfl rfl ?_
        refine ks_iconst (x := nI 2) dX9_doubleRest_11 (by decide) rfl ?_
        refine ks_aload_n dX9_doubleRest_12 rfl rfl ?_
        refine ks_getf (T := TX9) (kf := 2) kx_721 rfl in_X9 cl_X9 (by decide) h44 rfl dX9_doubleRest_13 rfl ?_
        refine ks_iload_n dX9_doubleRest_16 rfl rfl ?_
        refine ks_baldB (i := i) h47 rfl (by omega) (by decide) dX9_doubleRest_17 rfl ?_
        refine ks_sipush (x := nI 255) dX9_doubleRest_18 (by decide) rfl ?_
        refine ks_andB (hg _) dX9_doubleRest_21 rfl ?_
        have hy21 : g i < 256 := (hg _)
        refine ks_mulN dX9_doubleRest_22 rfl ?_
        refine ks_addN dX9_doubleRest_23 rfl ?_
        refine ks_istore_n dX9_doubleRest_24 (by decide) rfl ?_
        refine ks_sub [(1, _), (2, _), (0, _)] rfl ?_
        refine ks_aload_n dX9_doubleRest_25 rfl rfl ?_
        refine ks_getf (T := TX9) (kf := 2) kx_721 rfl in_X9 cl_X9 (by decide) h44 rfl dX9_doubleRest_26 rfl ?_
        refine ks_iload_n dX9_doubleRest_29 rfl rfl ?_
        refine ks_iload_n dX9_doubleRest_30 rfl rfl ?_
        refine ks_i2b dX9_doubleRest_31 rfl ?_
        refine ks_bastB (i := i) (c := (c + (2 * (g i))) % 256) h47 rfl (by omega) (by decide) ((ks_by_i8 _).trans (ks_by_nI _)) dX9_doubleRest_32 rfl ?_
        refine ks_iload_n dX9_doubleRest_33 rfl rfl ?_
        refine ks_bipush (x := nI 8) dX9_doubleRest_34 (by decide) rfl ?_
        refine ks_shrN (k := 8) (by decide) (by omega) dX9_doubleRest_36 rfl ?_
        refine ks_istore_n dX9_doubleRest_37 (by decide) rfl ?_
        refine ks_sub [(1, _), (2, _), (0, _)] rfl ?_
        refine ks_incN (c := 1) (e := i + 1) dX9_doubleRest_38 rfl (by decide) rfl (by decide) rfl ?_
        refine ks_sub [(2, _), (1, _), (0, _)] rfl ?_
        refine ks_goto (tgt := 4) dX9_doubleRest_41 (by decide) ?_
        have e1 := hj i (Nat.le_refl i)
        refine ks_sub [(2, _), (1, _), (0, _)] rfl (ih (i + 1) (by omega) _ _ _ (hu.trans (ks_up_set _ _ (by decide))) (ks_set_same _ _ _) (kO_up hg (Nat.mod_lt _ (by decide))) (by omega) ?_ ?_)
        · intro j h1
          rw [va_up_ne _ _ (by omega)]
          exact hj j (by omega)
        · have e2 := dg_cy (B := 256) (o := va_up g i ((c + 2 * g i) % 256)) (i := i) (c := c) (t := 2 * g i) (X := dg 256 gr i * 2) (by rw [dg_up_out (Nat.le_refl i)]; exact hd) (va_up_self _ _ _)
          show dg 256 (va_up g i ((c + 2 * g i) % 256)) (i + 1) + 256 ^ (i + 1) * ((c + 2 * g i) / 256) = _
          rw [e2, dg_s, Nat.add_mul, e1]
          grind
  refine ks_of (by decide) rfl rfl (Nat.le_of_ble_eq_true rfl) ?_
  show ks_X l G mX9_doubleRest d 0 [(0, .ref 44)] [] S _
  refine ks_iconst (x := nI 0) dX9_doubleRest_0 (by decide) rfl ?_
  refine ks_istore_n dX9_doubleRest_1 (by decide) rfl ?_
  refine ks_sub [(1, _), (0, _)] rfl ?_
  refine ks_iconst (x := nI 0) dX9_doubleRest_2 (by decide) rfl ?_
  refine ks_istore_n dX9_doubleRest_3 (by decide) rfl ?_
  refine ks_sub [(2, _), (0, _), (1, _)] rfl ?_
  exact ks_sub _ rfl (loop 34 0 rfl S gr 0 (ks_up.rf _ _) hr hg (by decide) (fun _ _ => rfl) (by simp [dg]))
set_option maxRecDepth 100000 in
set_option maxHeartbeats 40000000 in
theorem c_takeOut {l : Launch} {G : ks_G} {d : Nat} {S : ks_S} {N R V : Nat} {gr gv : Nat → Nat} (hT : tg_ok S N) (hr : S.2.2 47 = some (kB 34 gr)) (hg : kO gr) (hR : dg 256 gr 34 = R) (hv : S.2.2 46 = some (kB 34 gv)) (hgv : kO gv) (hV : dg 256 gv 34 = V) : ks_P l G yX9_takeOut mX9_takeOut d [.ref 44] S (fun z S' => z = some (.int (ks_bo (decide (V ≤ R)))) ∧ ks_up S S' [47] ∧ ∃ g, kO g ∧ S'.2.2 47 = some (kB 34 g) ∧ dg 256 g 34 = if V ≤ R then R - V else R) := by
  have loop2 : V ≤ R → ∀ k i, i + k = 34 → ∀ (S1 : ks_S) (g : Nat → Nat) (c : Nat), ks_up S S1 [47] → S1.2.2 47 = some (kB 34 g) → kO g → c ≤ 1 → (∀ j, i ≤ j → g j = gr j) → dg 256 g i + dg 256 gv i = dg 256 gr i + 256 ^ i * c → ks_X l G mX9_takeOut d 57 [(3, .int (nI i)), (2, .int (ks_ng c)), (0, .ref 44)] [] S1 (fun z S' => z = some (.int (ks_bo (decide (V ≤ R)))) ∧ ks_up S S' [47] ∧ ∃ g, kO g ∧ S'.2.2 47 = some (kB 34 g) ∧ dg 256 g 34 = if V ≤ R then R - V else R) := by
    intro hVR k
    induction k with
    | zero =>
      intro i hi S1 g c hu h47 hg9 hc1 hj hd
      have h44 := hu.at hT.1 (by decide)
      have h46 := hu.at hv (by decide)
      refine ks_iload_n dX9_takeOut_57 rfl rfl ?_
      refine ks_bipush (x := nI 34) dX9_takeOut_58 (by decide) rfl ?_
      refine ks_icmp_geN (tgt := 106) (by omega) (by decide) dX9_takeOut_60 (by decide) rfl (fun hc => ?_) (fun hc => ?_)
      · refine ks_iconst (x := nI 1) dX9_takeOut_106 (by decide) rfl ?_
        refine ks_zret rfl rfl dX9_takeOut_107 ?_
        obtain rfl : i = 34 := by omega
        rw [hR, hV] at hd
        refine ⟨by rw [decide_eq_true hVR]; rfl, hu, g, hg9, h47, ?_⟩
        have e1 : dg 256 g 34 < 256 ^ 34 := dg_lt (fun k _ => hg9 k)
        rw [if_pos hVR]
        rcases Nat.eq_zero_or_pos c with e | e
        · rw [e] at hd; omega
        · obtain rfl : c = 1 := by omega
          omega
      · exact absurd (show 34 ≤ i by omega) hc
    | succ k ih =>
      intro i hi S1 g c hu h47 hg9 hc1 hj hd
      have h44 := hu.at hT.1 (by decide)
      have h46 := hu.at hv (by decide)
      refine ks_iload_n dX9_takeOut_57 rfl rfl ?_
      refine ks_bipush (x := nI 34) dX9_takeOut_58 (by decide) rfl ?_
      refine ks_icmp_geN (tgt := 106) (by omega) (by decide) dX9_takeOut_60 (by decide) rfl (fun hc => ?_) (fun hc => ?_)
      · exact absurd hc (by omega)
      · have hb9 := hg9 i
        have hb8 := hgv i
        refine ks_iload_n dX9_takeOut_63 rfl rfl ?_
        refine ks_aload_n dX9_takeOut_64 rfl rfl ?_
        refine ks_getf (T := TX9) (kf := 2) kx_721 rfl in_X9 cl_X9 (by decide) h44 rfl dX9_takeOut_65 rfl ?_
        refine ks_iload_n dX9_takeOut_68 rfl rfl ?_
        refine ks_baldB (i := i) h47 rfl (by omega) (by decide) dX9_takeOut_69 rfl ?_
        refine ks_sipush (x := nI 255) dX9_takeOut_70 (by decide) rfl ?_
        refine ks_andB (hg9 _) dX9_takeOut_73 rfl ?_
        have hy73 : g i < 256 := (hg9 _)
        refine ks_aload_n dX9_takeOut_74 rfl rfl ?_
        refine ks_getf (T := TX9) (kf := 1) kx_720 rfl in_X9 cl_X9 (by decide) h44 rfl dX9_takeOut_75 rfl ?_
        refine ks_iload_n dX9_takeOut_78 rfl rfl ?_
        refine ks_baldB (i := i) h46 rfl (by omega) (by decide) dX9_takeOut_79 rfl ?_
        refine ks_sipush (x := nI 255) dX9_takeOut_80 (by decide) rfl ?_
        refine ks_andB (hgv _) dX9_takeOut_83 rfl ?_
        have hy83 : gv i < 256 := (hgv _)
        refine ks_isub dX9_takeOut_84 rfl ?_
        refine ks_iadd dX9_takeOut_85 rfl ?_
        refine ks_istore_n dX9_takeOut_86 (by decide) rfl ?_
        refine ks_sub [(2, _), (3, _), (0, _)] rfl ?_
        refine ks_aload_n dX9_takeOut_87 rfl rfl ?_
        refine ks_getf (T := TX9) (kf := 2) kx_721 rfl in_X9 cl_X9 (by decide) h44 rfl dX9_takeOut_88 rfl ?_
        refine ks_iload_n dX9_takeOut_91 rfl rfl ?_
        refine ks_iload_n dX9_takeOut_92 rfl rfl ?_
        refine ks_i2b dX9_takeOut_93 rfl ?_
        refine ks_bastB (i := i) (c := (g i + 256 - gv i - c) % 256) h47 rfl (by omega) (by decide) ((ks_by_i8 _).trans (bw_by hc1 (hg9 _) (hgv _))) dX9_takeOut_94 rfl ?_
        refine ks_iload_n dX9_takeOut_95 rfl rfl ?_
        refine ks_bipush (x := nI 8) dX9_takeOut_96 (by decide) rfl ?_
        refine ks_ishr dX9_takeOut_98 rfl ?_
        refine ks_ti (y := ks_ng (if g i < gv i + c then 1 else 0)) (bw_sh hc1 (hg9 _) (hgv _)) ?_
        refine ks_istore_n dX9_takeOut_99 (by decide) rfl ?_
        refine ks_sub [(2, _), (3, _), (0, _)] rfl ?_
        refine ks_incN (c := 1) (e := i + 1) dX9_takeOut_100 rfl (by decide) rfl (by decide) rfl ?_
        refine ks_sub [(3, _), (2, _), (0, _)] rfl ?_
        refine ks_goto (tgt := 57) dX9_takeOut_103 (by decide) ?_
        have e1 := hj i (Nat.le_refl i)
        refine ks_sub [(3, _), (2, _), (0, _)] rfl (ih (i + 1) (by omega) _ _ _ (hu.trans (ks_up_set _ _ (by decide))) (ks_set_same _ _ _) (kO_up hg9 (Nat.mod_lt _ (by decide))) (by split <;> omega) ?_ ?_)
        · intro j h1
          rw [va_up_ne _ _ (by omega)]
          exact hj j (by omega)
        · rw [dg_s 256 gv, dg_s 256 gr, ← e1]
          exact dg_bw (by rw [dg_up_out (Nat.le_refl i)]; exact hd) hb9 hb8 hc1 (va_up_self _ _ _)
  have loop1 : ∀ t, t < 34 → (∀ j, t < j → j < 34 → gr j = gv j) → ks_X l G mX9_takeOut d 3 [(1, .int (nI t)), (0, .ref 44)] [] S (fun z S' => z = some (.int (ks_bo (decide (V ≤ R)))) ∧ ks_up S S' [47] ∧ ∃ g, kO g ∧ S'.2.2 47 = some (kB 34 g) ∧ dg 256 g 34 = if V ≤ R then R - V else R) := by
    intro t
    induction t with
    | zero =>
      intro ht hj
      refine ks_iload_n dX9_takeOut_3 rfl rfl ?_
      refine ks_if_leN (tgt := 28) (by decide) dX9_takeOut_4 (by decide) rfl (fun hc => ?_) (fun hc => ?_)
      · have hb9 := hg (0)
        have hb8 := hgv (0)
        refine ks_aload_n dX9_takeOut_28 rfl rfl ?_
        refine ks_getf (T := TX9) (kf := 2) kx_721 rfl in_X9 cl_X9 (by decide) hT.1 rfl dX9_takeOut_29 rfl ?_
        refine ks_iload_n dX9_takeOut_32 rfl rfl ?_
        refine ks_baldB (i := 0) hr rfl (by decide) (by decide) dX9_takeOut_33 rfl ?_
        refine ks_sipush (x := nI 255) dX9_takeOut_34 (by decide) rfl ?_
        refine ks_andB (hg _) dX9_takeOut_37 rfl ?_
        have hy37 : gr 0 < 256 := (hg _)
        refine ks_aload_n dX9_takeOut_38 rfl rfl ?_
        refine ks_getf (T := TX9) (kf := 1) kx_720 rfl in_X9 cl_X9 (by decide) hT.1 rfl dX9_takeOut_39 rfl ?_
        refine ks_iload_n dX9_takeOut_42 rfl rfl ?_
        refine ks_baldB (i := 0) hv rfl (by decide) (by decide) dX9_takeOut_43 rfl ?_
        refine ks_sipush (x := nI 255) dX9_takeOut_44 (by decide) rfl ?_
        refine ks_andB (hgv _) dX9_takeOut_47 rfl ?_
        have hy47 : gv 0 < 256 := (hgv _)
        refine ks_icmp_geN (tgt := 53) (by omega) (by omega) dX9_takeOut_48 (by decide) rfl (fun hx => ?_) (fun hx => ?_)
        · refine ks_iconst (x := nI 0) dX9_takeOut_53 (by decide) rfl ?_
          refine ks_istore_n dX9_takeOut_54 (by decide) rfl ?_
          refine ks_sub [(2, _), (1, _), (0, _)] rfl ?_
          refine ks_iconst (x := nI 0) dX9_takeOut_55 (by decide) rfl ?_
          refine ks_istore_n dX9_takeOut_56 (by decide) rfl ?_
          refine ks_sub [(3, _), (1, _), (0, _), (2, _)] rfl ?_
          refine ks_sub [(0, _), (2, _), (3, _)] rfl ?_
          have hVR : V ≤ R := by
            rw [← hR, ← hV]
            by_cases e : gv (0) = gr (0)
            · refine Nat.le_of_eq (dg_congr (fun k hk => ?_))
              by_cases e2 : k = 0
              · rw [e2]; exact e
              · first | exact (hj k (by omega) hk).symm | exact absurd e.symm hne
            · exact Nat.le_of_lt (dg_cmp (j := 0) (by omega) (fun q q1 q2 => (hj q q1 q2).symm) (fun q _ => hgv q) (by omega))
          exact ks_sub [(3, _), (2, _), (0, _)] rfl (loop2 hVR 34 0 rfl S gr 0 (ks_up.rf _ _) hr hg (by decide) (fun _ _ => rfl) (by simp [dg]))
        · refine ks_iconst (x := nI 0) dX9_takeOut_51 (by decide) rfl ?_
          refine ks_zret rfl rfl dX9_takeOut_52 ?_
          have hVR : ¬ V ≤ R := by
            rw [← hR, ← hV]
            exact Nat.not_le.mpr (dg_cmp (j := 0) (by omega) (fun q q1 q2 => hj q q1 q2) (fun q _ => hg q) (by omega))
          refine ⟨by rw [decide_eq_false hVR]; rfl, ks_up.rf _ _, gr, hg, hr, ?_⟩
          rw [if_neg hVR, hR]
      · exact absurd hc (by decide)
    | succ t ih =>
      intro ht hj
      refine ks_iload_n dX9_takeOut_3 rfl rfl ?_
      refine ks_if_leN (tgt := 28) (by omega) dX9_takeOut_4 (by decide) rfl (fun hc => ?_) (fun hc => ?_)
      · exact absurd hc (by omega)
      · refine ks_aload_n dX9_takeOut_7 rfl rfl ?_
        refine ks_getf (T := TX9) (kf := 2) kx_721 rfl in_X9 cl_X9 (by decide) hT.1 rfl dX9_takeOut_8 rfl ?_
        refine ks_iload_n dX9_takeOut_11 rfl rfl ?_
        refine ks_baldB (i := t + 1) hr rfl (by omega) (by decide) dX9_takeOut_12 rfl ?_
        refine ks_aload_n dX9_takeOut_13 rfl rfl ?_
        refine ks_getf (T := TX9) (kf := 1) kx_720 rfl in_X9 cl_X9 (by decide) hT.1 rfl dX9_takeOut_14 rfl ?_
        refine ks_iload_n dX9_takeOut_17 rfl rfl ?_
        refine ks_baldB (i := t + 1) hv rfl (by omega) (by decide) dX9_takeOut_18 rfl ?_
        refine ks_icmp_neY (tgt := 28) (hg _) (hgv _) dX9_takeOut_19 (by decide) rfl (fun hne => ?_) (fun hne => ?_)
        · have hb9 := hg (t + 1)
          have hb8 := hgv (t + 1)
          refine ks_aload_n dX9_takeOut_28 rfl rfl ?_
          refine ks_getf (T := TX9) (kf := 2) kx_721 rfl in_X9 cl_X9 (by decide) hT.1 rfl dX9_takeOut_29 rfl ?_
          refine ks_iload_n dX9_takeOut_32 rfl rfl ?_
          refine ks_baldB (i := t + 1) hr rfl (by omega) (by decide) dX9_takeOut_33 rfl ?_
          refine ks_sipush (x := nI 255) dX9_takeOut_34 (by decide) rfl ?_
          refine ks_andB (hg _) dX9_takeOut_37 rfl ?_
          have hy37 : gr (t + 1) < 256 := (hg _)
          refine ks_aload_n dX9_takeOut_38 rfl rfl ?_
          refine ks_getf (T := TX9) (kf := 1) kx_720 rfl in_X9 cl_X9 (by decide) hT.1 rfl dX9_takeOut_39 rfl ?_
          refine ks_iload_n dX9_takeOut_42 rfl rfl ?_
          refine ks_baldB (i := t + 1) hv rfl (by omega) (by decide) dX9_takeOut_43 rfl ?_
          refine ks_sipush (x := nI 255) dX9_takeOut_44 (by decide) rfl ?_
          refine ks_andB (hgv _) dX9_takeOut_47 rfl ?_
          have hy47 : gv (t + 1) < 256 := (hgv _)
          refine ks_icmp_geN (tgt := 53) (by omega) (by omega) dX9_takeOut_48 (by decide) rfl (fun hx => ?_) (fun hx => ?_)
          · refine ks_iconst (x := nI 0) dX9_takeOut_53 (by decide) rfl ?_
            refine ks_istore_n dX9_takeOut_54 (by decide) rfl ?_
            refine ks_sub [(2, _), (1, _), (0, _)] rfl ?_
            refine ks_iconst (x := nI 0) dX9_takeOut_55 (by decide) rfl ?_
            refine ks_istore_n dX9_takeOut_56 (by decide) rfl ?_
            refine ks_sub [(3, _), (1, _), (0, _), (2, _)] rfl ?_
            refine ks_sub [(0, _), (2, _), (3, _)] rfl ?_
            have hVR : V ≤ R := by
              rw [← hR, ← hV]
              by_cases e : gv (t + 1) = gr (t + 1)
              · refine Nat.le_of_eq (dg_congr (fun k hk => ?_))
                by_cases e2 : k = t + 1
                · rw [e2]; exact e
                · first | exact (hj k (by omega) hk).symm | exact absurd e.symm hne
              · exact Nat.le_of_lt (dg_cmp (j := t + 1) (by omega) (fun q q1 q2 => (hj q q1 q2).symm) (fun q _ => hgv q) (by omega))
            exact ks_sub [(3, _), (2, _), (0, _)] rfl (loop2 hVR 34 0 rfl S gr 0 (ks_up.rf _ _) hr hg (by decide) (fun _ _ => rfl) (by simp [dg]))
          · refine ks_iconst (x := nI 0) dX9_takeOut_51 (by decide) rfl ?_
            refine ks_zret rfl rfl dX9_takeOut_52 ?_
            have hVR : ¬ V ≤ R := by
              rw [← hR, ← hV]
              exact Nat.not_le.mpr (dg_cmp (j := t + 1) (by omega) (fun q q1 q2 => hj q q1 q2) (fun q _ => hg q) (by omega))
            refine ⟨by rw [decide_eq_false hVR]; rfl, ks_up.rf _ _, gr, hg, hr, ?_⟩
            rw [if_neg hVR, hR]
        · refine ks_decN (e := t) dX9_takeOut_22 rfl (by decide) (by omega) (by decide) rfl ?_
          refine ks_sub [(1, _), (0, _)] rfl ?_
          refine ks_goto (tgt := 3) dX9_takeOut_25 (by decide) ?_
          refine ks_sub [(1, _), (0, _)] rfl (ih (by omega) ?_)
          intro j h1 h2
          by_cases e : j = t + 1
          · rw [e]; exact hne
          · exact hj j (by omega) h2
  refine ks_of (by decide) rfl rfl (Nat.le_of_ble_eq_true rfl) ?_
  show ks_X l G mX9_takeOut d 0 [(0, .ref 44)] [] S _
  refine ks_bipush (x := nI 33) dX9_takeOut_0 (by decide) rfl ?_
  refine ks_istore_n dX9_takeOut_2 (by decide) rfl ?_
  refine ks_sub [(1, _), (0, _)] rfl ?_
  exact ks_sub _ rfl (loop1 33 (by decide) (fun j h1 h2 => by omega))
