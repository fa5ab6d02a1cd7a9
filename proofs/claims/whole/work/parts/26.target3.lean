/-! TARGET: stretch, asBits, work -/
def tg_len (N : Nat) : Nat → Nat
  | 0 => 0
  | n + 1 => if N < 256 ^ n then tg_len N n else n + 1
theorem tg_len_le (N : Nat) : ∀ n, tg_len N n ≤ n
  | 0 => Nat.le_refl _
  | n + 1 => by
    unfold tg_len
    split
    · exact Nat.le_succ_of_le (tg_len_le N n)
    · exact Nat.le_refl _
def tg_w (N n : Nat) : Nat := N * 256 ^ 3 / 256 ^ n
def tg_bits (N : Nat) : Nat := if 2 ^ 23 ≤ tg_w N (tg_len N 34) then (tg_len N 34 + 1) * 2 ^ 24 + tg_w N (tg_len N 34) / 2 ^ 8 else tg_len N 34 * 2 ^ 24 + tg_w N (tg_len N 34)
def tg_f (sp : Int64) : Nat := if sp < 1200 then 1200 else if sp < 19200 then sp.toInt.toNat else 19200
def tg_str (N : Nat) (sp : Int64) : Nat := if 2 ^ 255 ≤ N * tg_f sp / 4800 then tg_num 545259519 else N * tg_f sp / 4800
theorem tg_fl (sp : Int64) : 1200 ≤ tg_f sp ∧ tg_f sp ≤ 19200 ∧ (if (if sp < lN 19200 then sp else lN 19200) < lN 1200 then lN 1200 else (if sp < lN 19200 then sp else lN 19200)) = lN (tg_f sp) := by
  have k1 : lN 19200 = 19200 := rfl
  have k2 : lN 1200 = 1200 := rfl
  rw [k1, k2]
  unfold tg_f
  by_cases h1 : sp < 1200
  · have h2 : sp < 19200 := Int64.lt_trans h1 (by decide)
    simp only [if_pos h1, if_pos h2]
    exact ⟨by decide, by decide, rfl⟩
  · by_cases h2 : sp < 19200
    · simp only [if_neg h1, if_pos h2]
      have a1 : sp.toInt < 19200 := Int64.lt_iff_toInt_lt.mp h2
      have a2 : ¬ sp.toInt < 1200 := fun h => h1 (Int64.lt_iff_toInt_lt.mpr h)
      refine ⟨by omega, by omega, ?_⟩
      apply Int64.toInt_inj.mp
      rw [pk_lT (by omega)]
      omega
    · simp only [if_neg h1, if_neg h2]
      rw [if_neg (by decide : ¬ (19200 : Int64) < 1200)]
      exact ⟨by decide, by decide, rfl⟩
theorem tw_s {N n i : Nat} {g : Nat → Nat} (hg : kO g) (hN : dg 256 g n = N) : N * 256 ^ (i + 1) / 256 ^ n = N * 256 ^ i / 256 ^ n * 2 ^ 8 + (if i + 1 ≤ n then g (n - (i + 1)) else 0) := by
  by_cases h : i + 1 ≤ n
  · rw [if_pos h]
    have e1 : ∀ q, q ≤ n → N * 256 ^ q / 256 ^ n = N / 256 ^ (n - q) := fun q hq => by
      rw [show 256 ^ n = 256 ^ (n - q) * 256 ^ q by rw [← Nat.pow_add]; congr 1; omega, Nat.mul_div_mul_right _ _ (Nat.pow_pos (by decide))]
    rw [e1 (i + 1) h, e1 i (by omega), show n - i = (n - (i + 1)) + 1 by omega, Nat.pow_succ, ← Nat.div_div_eq_div_mul, ← dg_dig (B := 256) (by decide) (n := n) (fun k _ => hg k) (show n - (i + 1) < n by omega), hN]
    omega
  · rw [if_neg h]
    have e1 : ∀ q, n ≤ q → N * 256 ^ q / 256 ^ n = N * 256 ^ (q - n) := fun q hq => by
      rw [show 256 ^ q = 256 ^ (q - n) * 256 ^ n by rw [← Nat.pow_add]; congr 1; omega, ← Nat.mul_assoc, Nat.mul_div_cancel _ (Nat.pow_pos (by decide))]
    rw [e1 (i + 1) (by omega), e1 i (by omega), show i + 1 - n = (i - n) + 1 by omega, Nat.pow_succ, Nat.mul_assoc]
    rfl
theorem tw_lt {N n : Nat} (h : N < 256 ^ n) (i : Nat) : N * 256 ^ i / 256 ^ n < 256 ^ i := by
  apply Nat.div_lt_of_lt_mul
  exact Nat.mul_lt_mul_of_pos_right h (Nat.pow_pos (by decide))
theorem dg_cut {g : Nat → Nat} {n m : Nat} (h : n ≤ m) (hz : ∀ j, n ≤ j → j < m → g j = 0) : dg 256 g m = dg 256 g n := by
  obtain ⟨q, rfl⟩ := Nat.exists_eq_add_of_le h
  rw [dg_add, dg_0 (n := q) (fun k hk => hz _ (by omega) (by omega))]
  omega
set_option maxRecDepth 100000 in
set_option maxHeartbeats 40000000 in
theorem c_asBits {l : Launch} {G : ks_G} {d : Nat} {S : ks_S} {N : Nat} (hT : tg_ok S N) : ks_P l G yX9_asBits mX9_asBits d [.ref 44] S (fun z S' => z = some (.int (nI (tg_bits N))) ∧ S' = S) := by
  obtain ⟨gv, hgv, hv, hd⟩ := hT.2.1
  have loop2 : ∀ n, n ≤ 34 → tg_len N 34 = n → dg 256 gv n = N → N < 256 ^ n → ∀ k i, i + k = 3 → ∀ w, w = N * 256 ^ i / 256 ^ n → ks_X l G mX9_asBits d 28 [(3, .int (nI (i + 1))), (2, .int (nI w)), (1, .int (nI n)), (0, .ref 44)] [] S (fun z S' => z = some (.int (nI (tg_bits N))) ∧ S' = S) := by
    intro n hn hl hdn hN k
    induction k with
    | zero =>
      intro i hi w hw
      have hw2 : w < 256 ^ i := by rw [hw]; exact tw_lt hN i
      refine ks_iload_n dX9_asBits_28 rfl rfl ?_
      refine ks_iconst (x := nI 3) dX9_asBits_29 (by decide) rfl ?_
      refine ks_icmp_gtN (tgt := 66) (by omega) (by decide) dX9_asBits_30 (by decide) rfl (fun hc => ?_) (fun hc => ?_)
      · obtain rfl : i = 3 := by omega
        have e9 : tg_w N (tg_len N 34) = w := by rw [hl, hw]; rfl
        refine ks_iload_n dX9_asBits_66 rfl rfl ?_
        refine ks_ldc dX9_asBits_67 kx_921 rfl ?_
        refine ks_ti (y := nI 8388608) rfl ?_
        refine ks_iand dX9_asBits_69 rfl ?_
        refine ks_if_eq (tgt := 81) dX9_asBits_70 (by decide) rfl (fun he => ?_) (fun he => ?_)
        · rw [tk_bit (by omega)] at he
          refine ks_iload_n dX9_asBits_81 rfl rfl ?_
          refine ks_bipush (x := nI 24) dX9_asBits_82 (by decide) rfl ?_
          refine ks_shlN (k := 24) (by decide) (by omega) dX9_asBits_84 rfl ?_
          refine ks_iload_n dX9_asBits_85 rfl rfl ?_
          refine ks_or2 (a := n) (k := 24) (by omega) (by omega) dX9_asBits_86 rfl ?_
          refine ks_iret rfl dX9_asBits_87 ?_
          refine ⟨?_, rfl⟩
          unfold tg_bits
          rw [e9, if_neg (by omega), hl]
        · rw [tk_bit (by omega)] at he
          refine ks_iload_n dX9_asBits_73 rfl rfl ?_
          refine ks_bipush (x := nI 8) dX9_asBits_74 (by decide) rfl ?_
          refine ks_ushrN (k := 8) (by decide) (by omega) dX9_asBits_76 rfl ?_
          refine ks_istore_n dX9_asBits_77 (by decide) rfl ?_
          refine ks_sub [(2, _), (3, _), (1, _), (0, _)] rfl ?_
          refine ks_incN (c := 1) (e := n + 1) dX9_asBits_78 rfl (by decide) rfl (by decide) rfl ?_
          refine ks_sub [(1, _), (3, _), (2, _), (0, _)] rfl ?_
          refine ks_iload_n dX9_asBits_81 rfl rfl ?_
          refine ks_bipush (x := nI 24) dX9_asBits_82 (by decide) rfl ?_
          refine ks_shlN (k := 24) (by decide) (by omega) dX9_asBits_84 rfl ?_
          refine ks_iload_n dX9_asBits_85 rfl rfl ?_
          refine ks_or2 (a := (n + 1)) (k := 24) (by omega) (by omega) dX9_asBits_86 rfl ?_
          refine ks_iret rfl dX9_asBits_87 ?_
          refine ⟨?_, rfl⟩
          unfold tg_bits
          rw [e9, if_pos (by omega), hl]
      · exact absurd (show 3 < i + 1 by omega) hc
    | succ k ih =>
      intro i hi w hw
      have hw2 : w < 256 ^ i := by rw [hw]; exact tw_lt hN i
      refine ks_iload_n dX9_asBits_28 rfl rfl ?_
      refine ks_iconst (x := nI 3) dX9_asBits_29 (by decide) rfl ?_
      refine ks_icmp_gtN (tgt := 66) (by omega) (by decide) dX9_asBits_30 (by decide) rfl (fun hc => ?_) (fun hc => ?_)
      · exact absurd hc (by omega)
      · have hw3 : w < 256 ^ 2 := Nat.lt_of_lt_of_le hw2 (Nat.pow_le_pow_right (by decide) (by omega))
        refine ks_iload_n dX9_asBits_33 rfl rfl ?_
        refine ks_bipush (x := nI 8) dX9_asBits_34 (by decide) rfl ?_
        refine ks_shlN (k := 8) (by decide) (by omega) dX9_asBits_36 rfl ?_
        refine ks_iload_n dX9_asBits_37 rfl rfl ?_
        refine ks_iload_n dX9_asBits_38 rfl rfl ?_
        refine ks_icmp_ltN (tgt := 57) (by omega) (by omega) dX9_asBits_39 (by decide) rfl (fun he => ?_) (fun he => ?_)
        · refine ks_iconst (x := nI 0) dX9_asBits_57 (by decide) rfl ?_
          refine ks_or2 (a := w) (k := 8) (by decide) (by omega) dX9_asBits_58 rfl ?_
          refine ks_istore_n dX9_asBits_59 (by decide) rfl ?_
          refine ks_sub [(2, _), (3, _), (1, _), (0, _)] rfl ?_
          refine ks_incN (c := 1) (e := i + 1 + 1) dX9_asBits_60 rfl (by decide) rfl (by decide) rfl ?_
          refine ks_sub [(3, _), (2, _), (1, _), (0, _)] rfl ?_
          refine ks_goto (tgt := 28) dX9_asBits_63 (by decide) ?_
          exact ks_sub [(3, _), (2, _), (1, _), (0, _)] rfl (ih (i + 1) (by omega) _ (by rw [tw_s hgv hdn, hw, if_neg (by omega)]))
        · refine ks_aload_n dX9_asBits_42 rfl rfl ?_
          refine ks_getf (T := TX9) (kf := 0) kx_719 rfl in_X9 cl_X9 (by decide) hT.1 rfl dX9_asBits_43 rfl ?_
          refine ks_iload_n dX9_asBits_46 rfl rfl ?_
          refine ks_iload_n dX9_asBits_47 rfl rfl ?_
          refine ks_subN (by omega) dX9_asBits_48 rfl ?_
          refine ks_baldB (i := n - (i + 1)) hv rfl (by omega) (by decide) dX9_asBits_49 rfl ?_
          refine ks_sipush (x := nI 255) dX9_asBits_50 (by decide) rfl ?_
          refine ks_andB (hgv _) dX9_asBits_53 rfl ?_
          have hy53 : gv (n - (i + 1)) < 256 := (hgv _)
          refine ks_goto (tgt := 58) dX9_asBits_54 (by decide) ?_
          refine ks_or2 (a := w) (k := 8) (by omega) (by omega) dX9_asBits_58 rfl ?_
          refine ks_istore_n dX9_asBits_59 (by decide) rfl ?_
          refine ks_sub [(2, _), (3, _), (1, _), (0, _)] rfl ?_
          refine ks_incN (c := 1) (e := i + 1 + 1) dX9_asBits_60 rfl (by decide) rfl (by decide) rfl ?_
          refine ks_sub [(3, _), (2, _), (1, _), (0, _)] rfl ?_
          refine ks_goto (tgt := 28) dX9_asBits_63 (by decide) ?_
          exact ks_sub [(3, _), (2, _), (1, _), (0, _)] rfl (ih (i + 1) (by omega) _ (by rw [tw_s hgv hdn, hw, if_pos (by omega)]))
  have loop1 : ∀ s, s ≤ 34 → tg_len N 34 = tg_len N s → (∀ j, s ≤ j → j < 34 → gv j = 0) → ks_X l G mX9_asBits d 3 [(1, .int (nI s)), (0, .ref 44)] [] S (fun z S' => z = some (.int (nI (tg_bits N))) ∧ S' = S) := by
    intro s
    induction s with
    | zero =>
      intro hs hl hj
      have hN1 : dg 256 gv 0 = N := by rw [← hd, dg_cut hs hj]
      refine ks_iload_n dX9_asBits_3 rfl rfl ?_
      refine ks_if_leN (tgt := 24) (by decide) dX9_asBits_4 (by decide) rfl (fun hc => ?_) (fun hc => ?_)
      · refine ks_iconst (x := nI 0) dX9_asBits_24 (by decide) rfl ?_
        refine ks_istore_n dX9_asBits_25 (by decide) rfl ?_
        refine ks_sub [(2, _), (1, _), (0, _)] rfl ?_
        refine ks_iconst (x := nI 1) dX9_asBits_26 (by decide) rfl ?_
        refine ks_istore_n dX9_asBits_27 (by decide) rfl ?_
        refine ks_sub [(3, _), (1, _), (0, _), (2, _)] rfl ?_
        refine ks_sub [(3, _), (2, _), (1, _), (0, _)] rfl (loop2 (0) hs ?_ hN1 ?_ 3 0 rfl 0 ?_)
        · rw [hl]; first | rfl | exact if_neg hge
        · rw [← hN1]; exact dg_lt (fun k _ => hgv k)
        · rw [Nat.pow_zero, Nat.mul_one, Nat.div_eq_of_lt (by rw [← hN1]; exact dg_lt (fun k _ => hgv k))]
      · exact absurd hc (by decide)
    | succ s ih =>
      intro hs hl hj
      have hN1 : dg 256 gv (s + 1) = N := by rw [← hd, dg_cut hs hj]
      refine ks_iload_n dX9_asBits_3 rfl rfl ?_
      refine ks_if_leN (tgt := 24) (by omega) dX9_asBits_4 (by decide) rfl (fun hc => ?_) (fun hc => ?_)
      · exact absurd hc (by omega)
      · refine ks_aload_n dX9_asBits_7 rfl rfl ?_
        refine ks_getf (T := TX9) (kf := 0) kx_719 rfl in_X9 cl_X9 (by decide) hT.1 rfl dX9_asBits_8 rfl ?_
        refine ks_iload_n dX9_asBits_11 rfl rfl ?_
        refine ks_iconst (x := nI 1) dX9_asBits_12 (by decide) rfl ?_
        refine ks_subN (by omega) dX9_asBits_13 rfl ?_
        refine ks_baldB (i := s + 1 - 1) hv rfl (by omega) (by decide) dX9_asBits_14 rfl ?_
        refine ks_if_neY (tgt := 24) (hgv _) dX9_asBits_15 (by decide) rfl (fun hx => ?_) (fun hx => ?_)
        · rw [Nat.add_sub_cancel] at hx
          have hge : ¬ N < 256 ^ s := by
            rw [← hN1, dg_s]
            have := Nat.mul_le_mul_right (256 ^ s) (Nat.pos_of_ne_zero hx)
            omega
          refine ks_iconst (x := nI 0) dX9_asBits_24 (by decide) rfl ?_
          refine ks_istore_n dX9_asBits_25 (by decide) rfl ?_
          refine ks_sub [(2, _), (1, _), (0, _)] rfl ?_
          refine ks_iconst (x := nI 1) dX9_asBits_26 (by decide) rfl ?_
          refine ks_istore_n dX9_asBits_27 (by decide) rfl ?_
          refine ks_sub [(3, _), (1, _), (0, _), (2, _)] rfl ?_
          refine ks_sub [(3, _), (2, _), (1, _), (0, _)] rfl (loop2 (s + 1) hs ?_ hN1 ?_ 3 0 rfl 0 ?_)
          · rw [hl]; first | rfl | exact if_neg hge
          · rw [← hN1]; exact dg_lt (fun k _ => hgv k)
          · rw [Nat.pow_zero, Nat.mul_one, Nat.div_eq_of_lt (by rw [← hN1]; exact dg_lt (fun k _ => hgv k))]
        · rw [Nat.add_sub_cancel] at hx
          refine ks_decN (e := s) dX9_asBits_18 rfl (by decide) (by omega) (by decide) rfl ?_
          refine ks_sub [(1, _), (0, _)] rfl ?_
          refine ks_goto (tgt := 3) dX9_asBits_21 (by decide) ?_
          refine ks_sub [(1, _), (0, _)] rfl (ih (by omega) ?_ ?_)
          · rw [hl]
            exact if_pos (by rw [← hN1, dg_s, hx, Nat.zero_mul, Nat.add_zero]; exact dg_lt (fun k _ => hgv k))
          · intro j h1 h2
            by_cases e : j = s
            · rw [e]; exact hx
            · exact hj j (by omega) h2
  refine ks_of (by decide) rfl rfl (Nat.le_of_ble_eq_true rfl) ?_
  show ks_X l G mX9_asBits d 0 [(0, .ref 44)] [] S _
  refine ks_bipush (x := nI 34) dX9_asBits_0 (by decide) rfl ?_
  refine ks_istore_n dX9_asBits_2 (by decide) rfl ?_
  refine ks_sub [(1, _), (0, _)] rfl ?_
  exact ks_sub _ rfl (loop1 34 (by decide) rfl (fun j h1 h2 => by omega))
theorem st_div {T x : Nat} : (T * 256 + x) / 4800 = T / 4800 * 2 ^ 8 + (T % 4800 * 2 ^ 8 + x) / 4800 := by omega
theorem st_mod {T x : Nat} : (T * 256 + x) % 4800 = (T % 4800 * 2 ^ 8 + x) % 4800 := by omega
theorem st_t {X k : Nat} : X / 256 ^ k = X / 256 ^ (k + 1) * 256 + X / 256 ^ k % 256 := by
  rw [Nat.pow_succ, ← Nat.div_div_eq_div_mul]
  omega
set_option maxRecDepth 100000 in
set_option maxHeartbeats 40000000 in
theorem c_stretch {l : Launch} {G : ks_G} {d : Nat} {S : ks_S} {N : Nat} {sp : Int64} (hT : tg_ok S N) (hN : N < 2 ^ 256) : ks_P l G yX9_stretch mX9_stretch (d + 2) [.ref 44, .long sp] S (fun z S' => z = none ∧ ks_up S S' [45] ∧ tg_ok S' (tg_str N sp)) := by
  obtain ⟨gv, hgv, hv, hd⟩ := hT.2.1
  obtain ⟨f1, f2, fe⟩ := tg_fl sp
  generalize hf : tg_f sp = f at f1 f2 fe
  have hX : N * f < 2 ^ 272 := by
    have := Nat.mul_le_mul (Nat.le_of_lt hN) f2
    omega
  have tS : ∀ (S1 : ks_S) (g : Nat → Nat) (M : Nat), ks_up S S1 [45] → S1.2.2 45 = some (kB 34 g) → kO g → dg 256 g 34 = M → tg_ok S1 M := fun S1 g M hu h1 h2 h3 => ⟨hu.at hT.1 (by decide), ⟨g, h2, h1, h3⟩, ⟨_, hT.2.2.1.choose_spec.1, hu.at hT.2.2.1.choose_spec.2 (by decide)⟩, ⟨_, hT.2.2.2.choose_spec.1, hu.at hT.2.2.2.choose_spec.2 (by decide)⟩⟩
  have fin : ∀ (S1 : ks_S) (g : Nat → Nat), ks_up S S1 [45] → S1.2.2 45 = some (kB 34 g) → kO g → dg 256 g 34 = N * f / 4800 → ks_X l G mX9_stretch (d + 2) 128 [(0, .ref 44)] [] S1 (fun z S' => z = none ∧ ks_up S S' [45] ∧ tg_ok S' (tg_str N sp)) := by
    intro S1 g hu h45 hg he
    have h44 := hu.at hT.1 (by decide)
    have h1 := tS S1 g _ hu h45 hg he
    have e3 : dg 256 g 34 = dg 256 g 31 + 256 ^ 31 * (g 31 + 256 * g 32 + 65536 * g 33) := by
      show dg 256 g 31 + g 31 * 256 ^ 31 + g 32 * 256 ^ 32 + g 33 * 256 ^ 33 = _
      omega
    have e4 : dg 256 g 31 < 256 ^ 31 := dg_lt (fun k _ => hg k)
    have b1 := hg 31
    have b2 := hg 32
    have b3 := hg 33
    refine ks_aload_n dX9_stretch_128 rfl rfl ?_
    refine ks_getf (T := TX9) (kf := 0) kx_719 rfl in_X9 cl_X9 (by decide) h44 rfl dX9_stretch_129 rfl ?_
    refine ks_bipush (x := nI 33) dX9_stretch_132 (by decide) rfl ?_
    refine ks_baldB (i := 33) h45 rfl (by decide) (by decide) dX9_stretch_134 rfl ?_
    refine ks_if_neY (tgt := 158) (hg _) dX9_stretch_135 (by decide) rfl (fun hc135 => ?_) (fun hc135 => ?_)
    · refine ks_aload_n dX9_stretch_158 rfl rfl ?_
      refine ks_ldc dX9_stretch_159 kx_1413 rfl ?_
      refine ks_ti (y := nI 545259519) rfl ?_
      refine ks_callV (n := 1) (M' := mX9_take) (c_take (d := d) h1 (b := 545259519) (by decide)) h44 cl_X9 rfl kx_1414 kx_917 kx_918 kx_27 kx_919 (by decide +kernel) rfl (by decide) (Nat.le_of_ble_eq_true rfl) rfl dX9_stretch_161 rfl (fun r1 S2 h2 => ?_)
      obtain ⟨rfl, hu1, hT1⟩ := h2
      refine ks_pop dX9_stretch_164 rfl rfl ?_
      refine ks_ret rfl dX9_stretch_165 ?_
      refine ⟨rfl, hu.trans hu1, ?_⟩
      rw [tg_str, hf, if_pos (by rw [← he, e3]; omega)]
      exact hT1
    · refine ks_aload_n dX9_stretch_138 rfl rfl ?_
      refine ks_getf (T := TX9) (kf := 0) kx_719 rfl in_X9 cl_X9 (by decide) h44 rfl dX9_stretch_139 rfl ?_
      refine ks_bipush (x := nI 32) dX9_stretch_142 (by decide) rfl ?_
      refine ks_baldB (i := 32) h45 rfl (by decide) (by decide) dX9_stretch_144 rfl ?_
      refine ks_if_neY (tgt := 158) (hg _) dX9_stretch_145 (by decide) rfl (fun hc145 => ?_) (fun hc145 => ?_)
      · refine ks_aload_n dX9_stretch_158 rfl rfl ?_
        refine ks_ldc dX9_stretch_159 kx_1413 rfl ?_
        refine ks_ti (y := nI 545259519) rfl ?_
        refine ks_callV (n := 1) (M' := mX9_take) (c_take (d := d) h1 (b := 545259519) (by decide)) h44 cl_X9 rfl kx_1414 kx_917 kx_918 kx_27 kx_919 (by decide +kernel) rfl (by decide) (Nat.le_of_ble_eq_true rfl) rfl dX9_stretch_161 rfl (fun r1 S2 h2 => ?_)
        obtain ⟨rfl, hu1, hT1⟩ := h2
        refine ks_pop dX9_stretch_164 rfl rfl ?_
        refine ks_ret rfl dX9_stretch_165 ?_
        refine ⟨rfl, hu.trans hu1, ?_⟩
        rw [tg_str, hf, if_pos (by rw [← he, e3]; omega)]
        exact hT1
      · refine ks_aload_n dX9_stretch_148 rfl rfl ?_
        refine ks_getf (T := TX9) (kf := 0) kx_719 rfl in_X9 cl_X9 (by decide) h44 rfl dX9_stretch_149 rfl ?_
        refine ks_bipush (x := nI 31) dX9_stretch_152 (by decide) rfl ?_
        refine ks_baldB (i := 31) h45 rfl (by decide) (by decide) dX9_stretch_154 rfl ?_
        refine ks_if_geY (tgt := 165) (hg _) dX9_stretch_155 (by decide) rfl (fun hc155 => ?_) (fun hc155 => ?_)
        · refine ks_ret rfl dX9_stretch_165 ?_
          refine ⟨rfl, hu, ?_⟩
          rw [tg_str, hf, if_neg (by rw [← he, e3]; omega)]
          exact h1
        · refine ks_aload_n dX9_stretch_158 rfl rfl ?_
          refine ks_ldc dX9_stretch_159 kx_1413 rfl ?_
          refine ks_ti (y := nI 545259519) rfl ?_
          refine ks_callV (n := 1) (M' := mX9_take) (c_take (d := d) h1 (b := 545259519) (by decide)) h44 cl_X9 rfl kx_1414 kx_917 kx_918 kx_27 kx_919 (by decide +kernel) rfl (by decide) (Nat.le_of_ble_eq_true rfl) rfl dX9_stretch_161 rfl (fun r1 S2 h2 => ?_)
          obtain ⟨rfl, hu1, hT1⟩ := h2
          refine ks_pop dX9_stretch_164 rfl rfl ?_
          refine ks_ret rfl dX9_stretch_165 ?_
          refine ⟨rfl, hu.trans hu1, ?_⟩
          rw [tg_str, hf, if_pos (by rw [← he, e3]; omega)]
          exact hT1
  have loop2 : ∀ X, X = N * f → ∀ k, k ≤ 34 → ∀ (S1 : ks_S) (g : Nat → Nat) (c : Nat), ks_up S S1 [45] → S1.2.2 45 = some (kB 34 g) → kO g → c = X / 256 ^ k % 4800 → (∀ j, j < k → g j = X / 256 ^ j % 256) → dg 256 (fun j => g (k + j)) (34 - k) = X / 256 ^ k / 4800 → ks_X l G mX9_stretch (d + 2) 74 [(7, .int (nI k - 1)), (5, .long (lN c)), (0, .ref 44)] [] S1 (fun z S' => z = none ∧ ks_up S S' [45] ∧ tg_ok S' (tg_str N sp)) := by
    intro X hX1 k
    induction k with
    | zero =>
      intro hk S1 g c hu h45 hg hc hj hq
      refine ks_iload dX9_stretch_74 rfl rfl ?_
      refine ks_if_lt (tgt := 128) dX9_stretch_76 (by decide) rfl (fun hx => ?_) (fun hx => ?_)
      · refine ks_sub [(0, _)] rfl ?_
        refine fin S1 g hu h45 hg ?_
        rw [Nat.pow_zero, Nat.div_one, hX1] at hq
        rw [← hq]
        exact dg_congr (fun k _ => by rw [Nat.zero_add])
      · exact absurd (by decide) hx
    | succ k ih =>
      intro hk S1 g c hu h45 hg hc hj hq
      have h44 := hu.at hT.1 (by decide)
      rw [nI_pred]
      have hc4 : c < 4800 := by rw [hc]; exact Nat.mod_lt _ (by decide)
      have e1 := hj k (Nat.lt_succ_self k)
      have hb9 := hg k
      refine ks_iload dX9_stretch_74 rfl rfl ?_
      refine ks_if_ltN (tgt := 128) (by omega) dX9_stretch_76 (by decide) rfl ?_
      refine ks_lload dX9_stretch_79 rfl rfl ?_
      refine ks_bipush (x := nI 8) dX9_stretch_81 (by decide) rfl ?_
      refine ks_lshlN (k := 8) (by decide) dX9_stretch_83 rfl ?_
      refine ks_aload_n dX9_stretch_84 rfl rfl ?_
      refine ks_getf (T := TX9) (kf := 0) kx_719 rfl in_X9 cl_X9 (by decide) h44 rfl dX9_stretch_85 rfl ?_
      refine ks_iload dX9_stretch_88 rfl rfl ?_
      refine ks_baldB (i := k) h45 rfl (by omega) (by decide) dX9_stretch_90 rfl ?_
      refine ks_sipush (x := nI 255) dX9_stretch_91 (by decide) rfl ?_
      refine ks_andB (hg _) dX9_stretch_94 rfl ?_
      have hy94 : g k < 256 := (hg _)
      refine ks_i2lN (by omega) dX9_stretch_95 rfl ?_
      refine ks_lorN (a := c) (k := 8) (p := 2 ^ 8) rfl (by omega) (by omega) dX9_stretch_96 rfl ?_
      refine ks_lstore dX9_stretch_97 (by decide) rfl ?_
      refine ks_sub [(5, _), (7, _), (0, _)] rfl ?_
      refine ks_aload_n dX9_stretch_99 rfl rfl ?_
      refine ks_getf (T := TX9) (kf := 0) kx_719 rfl in_X9 cl_X9 (by decide) h44 rfl dX9_stretch_100 rfl ?_
      refine ks_iload dX9_stretch_103 rfl rfl ?_
      refine ks_lload dX9_stretch_105 rfl rfl ?_
      refine ks_ldc2 dX9_stretch_107 kx_1412 rfl ?_
      refine ks_tl (y := lN 4800) rfl ?_
      refine ks_ldivN (by omega) (by decide) (by decide) (by decide) dX9_stretch_110 rfl ?_
      refine ks_l2iN dX9_stretch_111 rfl ?_
      refine ks_i2b dX9_stretch_112 rfl ?_
      refine ks_bastB (i := k) (c := ((c * 2 ^ 8 + (g k)) / 4800) % 256) h45 rfl (by omega) (by decide) ((ks_by_i8 _).trans (ks_by_nI _)) dX9_stretch_113 rfl ?_
      refine ks_lload dX9_stretch_114 rfl rfl ?_
      refine ks_ldc2 dX9_stretch_116 kx_1412 rfl ?_
      refine ks_tl (y := lN 4800) rfl ?_
      refine ks_lremN (by omega) (by decide) (by decide) (by decide) dX9_stretch_119 rfl ?_
      refine ks_lstore dX9_stretch_120 (by decide) rfl ?_
      refine ks_sub [(5, _), (7, _), (0, _)] rfl ?_
      refine ks_incD dX9_stretch_122 rfl (by decide) (by decide) rfl ?_
      refine ks_sub [(7, _), (5, _), (0, _)] rfl ?_
      refine ks_goto (tgt := 74) dX9_stretch_125 (by decide) ?_
      have e2 := st_t (X := X) (k := k)
      rw [← e1] at e2
      have e3 : (c * 2 ^ 8 + g k) / 4800 < 256 := by omega
      refine ks_sub [(7, _), (5, _), (0, _)] rfl (ih (by omega) _ _ _ (hu.trans (ks_up_set _ _ (by decide))) (ks_set_same _ _ _) (kO_up hg (Nat.mod_lt _ (by decide))) ?_ ?_ ?_)
      · have e4 := st_mod (T := X / 256 ^ (k + 1)) (x := g k)
        rw [← hc] at e4
        rw [e2, e4]
      · intro j h1
        rw [va_up_ne _ _ (by omega)]
        exact hj j (by omega)
      · have e5 := st_div (T := X / 256 ^ (k + 1)) (x := g k)
        rw [← hc, ← hq] at e5
        rw [show 34 - k = (34 - (k + 1)) + 1 by omega, dg_c, e2, e5]
        show va_up g k _ (k + 0) + _ = _
        rw [Nat.add_zero, va_up_self, Nat.mod_eq_of_lt e3, dg_congr (g := fun j => g (k + 1 + j)) (fun j _ => by
          show va_up g k _ (k + (j + 1)) = g (k + 1 + j)
          rw [va_up_ne _ _ (by omega)]; congr 1; omega)]
        omega
  have loop1 : ∀ k i, i + k = 34 → ∀ (S1 : ks_S) (g : Nat → Nat) (c : Nat), ks_up S S1 [45] → S1.2.2 45 = some (kB 34 g) → kO g → c < 2 ^ 20 → (∀ j, i ≤ j → g j = gv j) → dg 256 g i + 256 ^ i * c = dg 256 gv i * f → ks_X l G mX9_stretch (d + 2) 20 [(7, .int (nI i)), (5, .long (lN c)), (3, .long (lN f)), (0, .ref 44)] [] S1 (fun z S' => z = none ∧ ks_up S S' [45] ∧ tg_ok S' (tg_str N sp)) := by
    intro k
    induction k with
    | zero =>
      intro i hi S1 g c hu h45 hg hc1 hj hq
      have h44 := hu.at hT.1 (by decide)
      refine ks_iload dX9_stretch_20 rfl rfl ?_
      refine ks_bipush (x := nI 34) dX9_stretch_22 (by decide) rfl ?_
      refine ks_icmp_geN (tgt := 70) (by omega) (by decide) dX9_stretch_24 (by decide) rfl (fun hc => ?_) (fun hc => ?_)
      · obtain rfl : i = 34 := by omega
        rw [hd] at hq
        have hc0 : c = 0 := by omega
        subst hc0
        rw [Nat.mul_zero, Nat.add_zero] at hq
        refine ks_bipush (x := nI 33) dX9_stretch_70 (by decide) rfl ?_
        refine ks_istore dX9_stretch_72 (by decide) rfl ?_
        refine ks_sub [(7, _), (5, _), (3, _), (0, _)] rfl ?_
        refine ks_sub [(7, _), (5, _), (0, _)] rfl ?_
        refine ks_sub [(7, _), (5, _), (0, _)] ?_ (loop2 (N * f) rfl 34 (by decide) S1 g 0 hu h45 hg ?_ ?_ ?_)
        · rfl
        · rw [← hq, Nat.div_eq_of_lt (dg_lt (fun k _ => hg k))]
        · intro j h1
          rw [← hq, dg_dig (by decide) (fun k _ => hg k) h1]
        · rw [← hq, Nat.div_eq_of_lt (dg_lt (fun k _ => hg k))]
          rfl
      · exact absurd (show 34 ≤ i by omega) hc
    | succ k ih =>
      intro i hi S1 g c hu h45 hg hc1 hj hq
      have h44 := hu.at hT.1 (by decide)
      refine ks_iload dX9_stretch_20 rfl rfl ?_
      refine ks_bipush (x := nI 34) dX9_stretch_22 (by decide) rfl ?_
      refine ks_icmp_geN (tgt := 70) (by omega) (by decide) dX9_stretch_24 (by decide) rfl (fun hc => ?_) (fun hc => ?_)
      · exact absurd hc (by omega)
      · have hb9 := hg i
        have hb8 : g i * f ≤ 255 * 19200 := Nat.mul_le_mul (by omega) f2
        refine ks_lload dX9_stretch_27 rfl rfl ?_
        refine ks_aload_n dX9_stretch_29 rfl rfl ?_
        refine ks_getf (T := TX9) (kf := 0) kx_719 rfl in_X9 cl_X9 (by decide) h44 rfl dX9_stretch_30 rfl ?_
        refine ks_iload dX9_stretch_33 rfl rfl ?_
        refine ks_baldB (i := i) h45 rfl (by omega) (by decide) dX9_stretch_35 rfl ?_
        refine ks_sipush (x := nI 255) dX9_stretch_36 (by decide) rfl ?_
        refine ks_andB (hg _) dX9_stretch_39 rfl ?_
        have hy39 : g i < 256 := (hg _)
        refine ks_i2lN (by omega) dX9_stretch_40 rfl ?_
        refine ks_lload_n dX9_stretch_41 rfl rfl ?_
        refine ks_lmulN dX9_stretch_42 rfl ?_
        refine ks_laddN dX9_stretch_43 rfl ?_
        refine ks_lstore dX9_stretch_44 (by decide) rfl ?_
        refine ks_sub [(5, _), (7, _), (3, _), (0, _)] rfl ?_
        refine ks_aload_n dX9_stretch_46 rfl rfl ?_
        refine ks_getf (T := TX9) (kf := 0) kx_719 rfl in_X9 cl_X9 (by decide) h44 rfl dX9_stretch_47 rfl ?_
        refine ks_iload dX9_stretch_50 rfl rfl ?_
        refine ks_lload dX9_stretch_52 rfl rfl ?_
        refine ks_l2iN dX9_stretch_54 rfl ?_
        refine ks_i2b dX9_stretch_55 rfl ?_
        refine ks_bastB (i := i) (c := (c + ((g i) * f)) % 256) h45 rfl (by omega) (by decide) ((ks_by_i8 _).trans (ks_by_nI _)) dX9_stretch_56 rfl ?_
        refine ks_lload dX9_stretch_57 rfl rfl ?_
        refine ks_bipush (x := nI 8) dX9_stretch_59 (by decide) rfl ?_
        refine ks_lshrN (k := 8) (by decide) (by decide) (by omega) dX9_stretch_61 rfl ?_
        refine ks_lstore dX9_stretch_62 (by decide) rfl ?_
        refine ks_sub [(5, _), (7, _), (3, _), (0, _)] rfl ?_
        refine ks_incN (c := 1) (e := i + 1) dX9_stretch_64 rfl (by decide) rfl (by decide) rfl ?_
        refine ks_sub [(7, _), (5, _), (3, _), (0, _)] rfl ?_
        refine ks_goto (tgt := 20) dX9_stretch_67 (by decide) ?_
        have e1 := hj i (Nat.le_refl i)
        refine ks_sub [(7, _), (5, _), (3, _), (0, _)] rfl (ih (i + 1) (by omega) _ _ _ (hu.trans (ks_up_set _ _ (by decide))) (ks_set_same _ _ _) (kO_up hg (Nat.mod_lt _ (by decide))) (by omega) ?_ ?_)
        · intro j h1
          rw [va_up_ne _ _ (by omega)]
          exact hj j (by omega)
        · have e2 := dg_cy (B := 256) (o := va_up g i ((c + g i * f) % 256)) (i := i) (c := c) (t := g i * f) (X := dg 256 gv i * f) (by rw [dg_up_out (Nat.le_refl i)]; exact hq) (va_up_self _ _ _)
          show dg 256 (va_up g i ((c + g i * f) % 256)) (i + 1) + 256 ^ (i + 1) * ((c + g i * f) / 256) = _
          rw [e2, dg_s, Nat.add_mul, e1]
          grind
  refine ks_of (by decide) rfl rfl (Nat.le_of_ble_eq_true rfl) ?_
  show ks_X l G mX9_stretch (d + 2) 0 [(0, .ref 44), (1, .long sp)] [] S _
  refine ks_ldc2 dX9_stretch_0 kx_1404 rfl ?_
  refine ks_tl (y := lN 1200) rfl ?_
  refine ks_ldc2 dX9_stretch_3 kx_1405 rfl ?_
  refine ks_tl (y := lN 19200) rfl ?_
  refine ks_lload_n dX9_stretch_6 rfl rfl ?_
  refine ks_minJ kx_1406 kx_1407 kx_16 kx_1408 (by omega) (Nat.le_of_ble_eq_true rfl) dX9_stretch_7 rfl ?_
  refine ks_maxJ kx_1409 kx_1410 kx_16 kx_1411 (by omega) (Nat.le_of_ble_eq_true rfl) dX9_stretch_10 rfl ?_
  refine ks_tl (y := lN f) fe ?_
  refine ks_lstore_n dX9_stretch_13 (by decide) rfl ?_
  refine ks_sub [(3, _), (0, _), (1, _)] rfl ?_
  refine ks_lconst (x := lN 0) dX9_stretch_14 (by decide) rfl ?_
  refine ks_lstore dX9_stretch_15 (by decide) rfl ?_
  refine ks_sub [(5, _), (0, _), (1, _), (3, _)] rfl ?_
  refine ks_iconst (x := nI 0) dX9_stretch_17 (by decide) rfl ?_
  refine ks_istore dX9_stretch_18 (by decide) rfl ?_
  refine ks_sub [(7, _), (0, _), (1, _), (3, _), (5, _)] rfl ?_
  exact ks_sub [(7, _), (5, _), (3, _), (0, _)] rfl (loop1 34 0 rfl S gv 0 (ks_up.rf _ _) hv hgv (by decide) (fun _ _ => rfl) (by simp [dg]))
