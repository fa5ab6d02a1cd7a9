/-! THE REFERENCE: a target as bits -/
theorem dg_of {A : Nat} : ∀ n, A < 256 ^ n → dg 256 (fun j => A / 256 ^ j % 256) n = A
  | 0, h => by have : A = 0 := by rw [Nat.pow_zero] at h; omega
               subst this; rfl
  | n + 1, h => by
    rw [dg_c]
    have h1 : A / 256 < 256 ^ n := Nat.div_lt_of_lt_mul (by rw [Nat.pow_succ, Nat.mul_comm] at h; exact h)
    have e : (fun k => A / 256 ^ (k + 1) % 256) = fun k => A / 256 / 256 ^ k % 256 := by
      funext k
      rw [Nat.pow_succ, Nat.mul_comm, ← Nat.div_div_eq_div_mul]
    rw [e, dg_of n h1, Nat.pow_zero, Nat.div_one]
    omega
/-- the byte k places below n -/
def tb (A n k : Nat) : Nat := if k ≤ n then A / 256 ^ (n - k) % 256 else 0
theorem tb_lt (A n k : Nat) : tb A n k < 256 := by unfold tb; split <;> omega
theorem tb_w {A n : Nat} (h : A < 256 ^ n) : tg_w A n = tb A n 1 * 2 ^ 16 + tb A n 2 * 2 ^ 8 + tb A n 3 := by
  have kg : kO (fun j => A / 256 ^ j % 256) := fun j => Nat.mod_lt _ (by decide)
  have hd := dg_of n h
  have e3 : A * 256 ^ 3 / 256 ^ n = A * 256 ^ 2 / 256 ^ n * 2 ^ 8 + tb A n 3 := tw_s (i := 2) kg hd
  have e2 : A * 256 ^ 2 / 256 ^ n = A * 256 ^ 1 / 256 ^ n * 2 ^ 8 + tb A n 2 := tw_s (i := 1) kg hd
  have e1 : A * 256 ^ 1 / 256 ^ n = A * 256 ^ 0 / 256 ^ n * 2 ^ 8 + tb A n 1 := tw_s (i := 0) kg hd
  have e0 : A * 256 ^ 0 / 256 ^ n = 0 := by rw [Nat.pow_zero, Nat.mul_one]; exact Nat.div_eq_of_lt h
  unfold tg_w
  rw [e3, e2, e1, e0]
  omega
theorem len_dn {A n : Nat} (h : A < 256 ^ (n + 1)) (hz : A / 256 ^ n % 256 = 0) : A < 256 ^ n := by
  have h1 : A / 256 ^ n < 256 := Nat.div_lt_of_lt_mul (by rw [Nat.pow_succ] at h; exact h)
  have h2 : A / 256 ^ n = 0 := by rw [Nat.mod_eq_of_lt h1] at hz; exact hz
  exact (Nat.div_eq_zero_iff.mp h2).resolve_left (Nat.ne_of_gt (Nat.pow_pos (by decide)))
theorem len_up {A n : Nat} (hz : ¬ A / 256 ^ n % 256 = 0) : ¬ A < 256 ^ n := fun h => hz (by rw [Nat.div_eq_of_lt h])
set_option maxRecDepth 100000 in
set_option maxHeartbeats 1600000 in
theorem c_md_bits {l : Launch} {G : ks_G} {d : Nat} {S : ks_S} {a A : Nat} (hA : wA S a A) (ha9 : a < ks_B) : ks_P l G yX16_bits mX16_bits (d + 1) [.ref a] S (fun z S' => z = some (.int (nI (tg_bits A))) ∧ S' = S) := by
  have hA2 := hA.lt
  have l34 : tg_len A 34 = tg_len A 32 := by
    show (if A < 256 ^ 33 then (if A < 256 ^ 32 then tg_len A 32 else 33) else 34) = _
    rw [if_pos (by omega), if_pos (by omega)]
  have tail : ∀ n, n ≤ 32 → A < 256 ^ n → tg_len A 34 = n → ∀ x, x = nI (tb A n 1 * 2 ^ 16 + tb A n 2 * 2 ^ 8 + tb A n 3) → ks_X l G mX16_bits (d + 1) 52 [(0, .ref a), (1, .int (nI n))] [.int x] S (fun z S' => z = some (.int (nI (tg_bits A))) ∧ S' = S) := by
    intro n hn hlt hlen x hx
    have t1 := tb_lt A n 1
    have t2 := tb_lt A n 2
    have t3 := tb_lt A n 3
    rw [← tb_w hlt] at hx
    have wl : tg_w A n < 16777216 := tw_lt hlt 3
    subst hx
    unfold tg_bits
    rw [hlen]
    refine ks_istore_n dX16_bits_52 (by decide) rfl ?_
    refine ks_sub [(2, _), (0, _), (1, _)] rfl ?_
    refine ks_iload_n dX16_bits_53 rfl rfl ?_
    refine ks_ldcw dX16_bits_54 kx_1951 rfl ?_
    refine ks_ti (y := nI 8388608) rfl ?_
    refine ks_icmp_ltN (tgt := 68) (by omega) (by decide) dX16_bits_57 (by decide) rfl (fun h1 => ?_) (fun h1 => ?_)
    · refine ks_iload_n dX16_bits_68 rfl rfl ?_
      refine ks_bipush (x := nI 24) dX16_bits_69 (by decide) rfl ?_
      refine ks_shlN (k := 24) (by decide) (by omega) dX16_bits_71 rfl ?_
      refine ks_iload_n dX16_bits_72 rfl rfl ?_
      refine ks_or2 (a := n) (k := 24) (by omega) (by omega) dX16_bits_73 rfl ?_
      refine ks_iret rfl dX16_bits_74 ?_
      rw [if_neg (by omega)]
      exact ⟨rfl, rfl⟩
    · refine ks_iload_n dX16_bits_60 rfl rfl ?_
      refine ks_bipush (x := nI 8) dX16_bits_61 (by decide) rfl ?_
      refine ks_shrN (k := 8) (by decide) (by omega) dX16_bits_63 rfl ?_
      refine ks_istore_n dX16_bits_64 (by decide) rfl ?_
      refine ks_sub [(2, _), (0, _), (1, _)] rfl ?_
      refine ks_incN (c := 1) (e := n + 1) dX16_bits_65 rfl (by decide) rfl (by decide) rfl ?_
      refine ks_sub [(1, _), (0, _), (2, _)] rfl ?_
      refine ks_iload_n dX16_bits_68 rfl rfl ?_
      refine ks_bipush (x := nI 24) dX16_bits_69 (by decide) rfl ?_
      refine ks_shlN (k := 24) (by decide) (by omega) dX16_bits_71 rfl ?_
      refine ks_iload_n dX16_bits_72 rfl rfl ?_
      refine ks_or2 (a := (n + 1)) (k := 24) (by omega) (by omega) dX16_bits_73 rfl ?_
      refine ks_iret rfl dX16_bits_74 ?_
      rw [if_pos (by omega)]
      exact ⟨rfl, rfl⟩
  have mid : ∀ n, n ≤ 32 → A < 256 ^ n → tg_len A 34 = n → ks_X l G mX16_bits (d + 1) 23 [(0, .ref a), (1, .int (nI n))] [] S (fun z S' => z = some (.int (nI (tg_bits A))) ∧ S' = S) := by
    intro n hn hlt hlen
    have n4 : n = 0 ∨ n = 1 ∨ n = 2 ∨ 3 ≤ n := by omega
    rcases n4 with rfl | rfl | rfl | n3
    · have T := tail 0 hn hlt hlen
      refine ks_aload_n dX16_bits_23 rfl rfl ?_
      refine ks_iload_n dX16_bits_24 rfl rfl ?_
      refine ks_iconst (x := nI 1) dX16_bits_25 (by decide) rfl ?_
      refine ks_isub dX16_bits_26 rfl ?_
      refine ks_callS (n := 2) (M' := mX16_byteOf) (c_md_byteOfN (d := d) (a := a) (by decide)) kx_2039 kx_2040 kx_30 kx_2041 (by decide +kernel) rfl (by decide) (Nat.le_of_ble_eq_true rfl) rfl dX16_bits_27 rfl (fun z1 T1 y1 => ?_)
      obtain ⟨rfl, hT1⟩ := y1
      obtain rfl := hT1.symm
      have b1 : 0 = tb A 0 1 := by unfold tb; rw [if_neg (by decide)]
      have c1 := tb_lt A 0 1
      refine ks_ti (y := nI (tb A 0 1)) (by rw [← b1]) ?_
      refine ks_bipush (x := nI 16) dX16_bits_30 (by decide) rfl ?_
      refine ks_shlN (k := 16) (by decide) (by omega) dX16_bits_32 rfl ?_
      refine ks_aload_n dX16_bits_33 rfl rfl ?_
      refine ks_iload_n dX16_bits_34 rfl rfl ?_
      refine ks_iconst (x := nI 2) dX16_bits_35 (by decide) rfl ?_
      refine ks_isub dX16_bits_36 rfl ?_
      refine ks_callS (n := 2) (M' := mX16_byteOf) (c_md_byteOfN (d := d) (a := a) (by decide)) kx_2039 kx_2040 kx_30 kx_2041 (by decide +kernel) rfl (by decide) (Nat.le_of_ble_eq_true rfl) rfl dX16_bits_37 rfl (fun z2 T2 y2 => ?_)
      obtain ⟨rfl, hT2⟩ := y2
      obtain rfl := hT2.symm
      have b2 : 0 = tb A 0 2 := by unfold tb; rw [if_neg (by decide)]
      have c2 := tb_lt A 0 2
      refine ks_ti (y := nI (tb A 0 2)) (by rw [← b2]) ?_
      refine ks_bipush (x := nI 8) dX16_bits_40 (by decide) rfl ?_
      refine ks_shlN (k := 8) (by decide) (by omega) dX16_bits_42 rfl ?_
      refine ks_or2 (a := (tb A 0 1)) (k := 16) (by omega) (by omega) dX16_bits_43 rfl ?_
      refine ks_aload_n dX16_bits_44 rfl rfl ?_
      refine ks_iload_n dX16_bits_45 rfl rfl ?_
      refine ks_iconst (x := nI 3) dX16_bits_46 (by decide) rfl ?_
      refine ks_isub dX16_bits_47 rfl ?_
      refine ks_callS (n := 2) (M' := mX16_byteOf) (c_md_byteOfN (d := d) (a := a) (by decide)) kx_2039 kx_2040 kx_30 kx_2041 (by decide +kernel) rfl (by decide) (Nat.le_of_ble_eq_true rfl) rfl dX16_bits_48 rfl (fun z3 T3 y3 => ?_)
      obtain ⟨rfl, hT3⟩ := y3
      obtain rfl := hT3.symm
      have b3 : 0 = tb A 0 3 := by unfold tb; rw [if_neg (by decide)]
      have c3 := tb_lt A 0 3
      refine ks_ti (y := nI (tb A 0 3)) (by rw [← b3]) ?_
      refine ks_ior dX16_bits_51 rfl ?_
      exact ks_sub [(0, _), (1, _)] rfl (T _ (ks_orN (k := 8) ⟨tb A 0 1 * 2 ^ 8 + tb A 0 2, by omega⟩ (by omega)))
    · have T := tail 1 hn hlt hlen
      refine ks_aload_n dX16_bits_23 rfl rfl ?_
      refine ks_iload_n dX16_bits_24 rfl rfl ?_
      refine ks_iconst (x := nI 1) dX16_bits_25 (by decide) rfl ?_
      refine ks_isub dX16_bits_26 rfl ?_
      refine ks_ti (y := nI 0) rfl ?_
      refine ks_callS (n := 2) (M' := mX16_byteOf) (c_md_byteOf (d := d) hA ha9 (by decide)) kx_2039 kx_2040 kx_30 kx_2041 (by decide +kernel) rfl (by decide) (Nat.le_of_ble_eq_true rfl) rfl dX16_bits_27 rfl (fun z1 T1 y1 => ?_)
      obtain ⟨rfl, hT1⟩ := y1
      obtain rfl := hT1.symm
      have b1 : A / 256 ^ 0 % 256 = tb A 1 1 := by unfold tb; rw [if_pos (by omega)]
      have c1 := tb_lt A 1 1
      rw [b1]
      refine ks_bipush (x := nI 16) dX16_bits_30 (by decide) rfl ?_
      refine ks_shlN (k := 16) (by decide) (by omega) dX16_bits_32 rfl ?_
      refine ks_aload_n dX16_bits_33 rfl rfl ?_
      refine ks_iload_n dX16_bits_34 rfl rfl ?_
      refine ks_iconst (x := nI 2) dX16_bits_35 (by decide) rfl ?_
      refine ks_isub dX16_bits_36 rfl ?_
      refine ks_callS (n := 2) (M' := mX16_byteOf) (c_md_byteOfN (d := d) (a := a) (by decide)) kx_2039 kx_2040 kx_30 kx_2041 (by decide +kernel) rfl (by decide) (Nat.le_of_ble_eq_true rfl) rfl dX16_bits_37 rfl (fun z2 T2 y2 => ?_)
      obtain ⟨rfl, hT2⟩ := y2
      obtain rfl := hT2.symm
      have b2 : 0 = tb A 1 2 := by unfold tb; rw [if_neg (by decide)]
      have c2 := tb_lt A 1 2
      refine ks_ti (y := nI (tb A 1 2)) (by rw [← b2]) ?_
      refine ks_bipush (x := nI 8) dX16_bits_40 (by decide) rfl ?_
      refine ks_shlN (k := 8) (by decide) (by omega) dX16_bits_42 rfl ?_
      refine ks_or2 (a := (tb A 1 1)) (k := 16) (by omega) (by omega) dX16_bits_43 rfl ?_
      refine ks_aload_n dX16_bits_44 rfl rfl ?_
      refine ks_iload_n dX16_bits_45 rfl rfl ?_
      refine ks_iconst (x := nI 3) dX16_bits_46 (by decide) rfl ?_
      refine ks_isub dX16_bits_47 rfl ?_
      refine ks_callS (n := 2) (M' := mX16_byteOf) (c_md_byteOfN (d := d) (a := a) (by decide)) kx_2039 kx_2040 kx_30 kx_2041 (by decide +kernel) rfl (by decide) (Nat.le_of_ble_eq_true rfl) rfl dX16_bits_48 rfl (fun z3 T3 y3 => ?_)
      obtain ⟨rfl, hT3⟩ := y3
      obtain rfl := hT3.symm
      have b3 : 0 = tb A 1 3 := by unfold tb; rw [if_neg (by decide)]
      have c3 := tb_lt A 1 3
      refine ks_ti (y := nI (tb A 1 3)) (by rw [← b3]) ?_
      refine ks_ior dX16_bits_51 rfl ?_
      exact ks_sub [(0, _), (1, _)] rfl (T _ (ks_orN (k := 8) ⟨tb A 1 1 * 2 ^ 8 + tb A 1 2, by omega⟩ (by omega)))
    · have T := tail 2 hn hlt hlen
      refine ks_aload_n dX16_bits_23 rfl rfl ?_
      refine ks_iload_n dX16_bits_24 rfl rfl ?_
      refine ks_iconst (x := nI 1) dX16_bits_25 (by decide) rfl ?_
      refine ks_isub dX16_bits_26 rfl ?_
      refine ks_ti (y := nI 1) rfl ?_
      refine ks_callS (n := 2) (M' := mX16_byteOf) (c_md_byteOf (d := d) hA ha9 (by decide)) kx_2039 kx_2040 kx_30 kx_2041 (by decide +kernel) rfl (by decide) (Nat.le_of_ble_eq_true rfl) rfl dX16_bits_27 rfl (fun z1 T1 y1 => ?_)
      obtain ⟨rfl, hT1⟩ := y1
      obtain rfl := hT1.symm
      have b1 : A / 256 ^ 1 % 256 = tb A 2 1 := by unfold tb; rw [if_pos (by omega)]
      have c1 := tb_lt A 2 1
      rw [b1]
      refine ks_bipush (x := nI 16) dX16_bits_30 (by decide) rfl ?_
      refine ks_shlN (k := 16) (by decide) (by omega) dX16_bits_32 rfl ?_
      refine ks_aload_n dX16_bits_33 rfl rfl ?_
      refine ks_iload_n dX16_bits_34 rfl rfl ?_
      refine ks_iconst (x := nI 2) dX16_bits_35 (by decide) rfl ?_
      refine ks_isub dX16_bits_36 rfl ?_
      refine ks_ti (y := nI 0) rfl ?_
      refine ks_callS (n := 2) (M' := mX16_byteOf) (c_md_byteOf (d := d) hA ha9 (by decide)) kx_2039 kx_2040 kx_30 kx_2041 (by decide +kernel) rfl (by decide) (Nat.le_of_ble_eq_true rfl) rfl dX16_bits_37 rfl (fun z2 T2 y2 => ?_)
      obtain ⟨rfl, hT2⟩ := y2
      obtain rfl := hT2.symm
      have b2 : A / 256 ^ 0 % 256 = tb A 2 2 := by unfold tb; rw [if_pos (by omega)]
      have c2 := tb_lt A 2 2
      rw [b2]
      refine ks_bipush (x := nI 8) dX16_bits_40 (by decide) rfl ?_
      refine ks_shlN (k := 8) (by decide) (by omega) dX16_bits_42 rfl ?_
      refine ks_or2 (a := (tb A 2 1)) (k := 16) (by omega) (by omega) dX16_bits_43 rfl ?_
      refine ks_aload_n dX16_bits_44 rfl rfl ?_
      refine ks_iload_n dX16_bits_45 rfl rfl ?_
      refine ks_iconst (x := nI 3) dX16_bits_46 (by decide) rfl ?_
      refine ks_isub dX16_bits_47 rfl ?_
      refine ks_callS (n := 2) (M' := mX16_byteOf) (c_md_byteOfN (d := d) (a := a) (by decide)) kx_2039 kx_2040 kx_30 kx_2041 (by decide +kernel) rfl (by decide) (Nat.le_of_ble_eq_true rfl) rfl dX16_bits_48 rfl (fun z3 T3 y3 => ?_)
      obtain ⟨rfl, hT3⟩ := y3
      obtain rfl := hT3.symm
      have b3 : 0 = tb A 2 3 := by unfold tb; rw [if_neg (by decide)]
      have c3 := tb_lt A 2 3
      refine ks_ti (y := nI (tb A 2 3)) (by rw [← b3]) ?_
      refine ks_ior dX16_bits_51 rfl ?_
      exact ks_sub [(0, _), (1, _)] rfl (T _ (ks_orN (k := 8) ⟨tb A 2 1 * 2 ^ 8 + tb A 2 2, by omega⟩ (by omega)))
    · have T := tail n hn hlt hlen
      refine ks_aload_n dX16_bits_23 rfl rfl ?_
      refine ks_iload_n dX16_bits_24 rfl rfl ?_
      refine ks_iconst (x := nI 1) dX16_bits_25 (by decide) rfl ?_
      refine ks_subN (by omega) dX16_bits_26 rfl ?_
      refine ks_callS (n := 2) (M' := mX16_byteOf) (c_md_byteOf (d := d) (i := n - 1) hA ha9 (by omega)) kx_2039 kx_2040 kx_30 kx_2041 (by decide +kernel) rfl (by decide) (Nat.le_of_ble_eq_true rfl) rfl dX16_bits_27 rfl (fun z1 T1 y1 => ?_)
      obtain ⟨rfl, hT1⟩ := y1
      obtain rfl := hT1.symm
      have b1 : A / 256 ^ (n - 1) % 256 = tb A n 1 := by unfold tb; rw [if_pos (by omega)]
      have c1 := tb_lt A n 1
      rw [b1]
      refine ks_bipush (x := nI 16) dX16_bits_30 (by decide) rfl ?_
      refine ks_shlN (k := 16) (by decide) (by omega) dX16_bits_32 rfl ?_
      refine ks_aload_n dX16_bits_33 rfl rfl ?_
      refine ks_iload_n dX16_bits_34 rfl rfl ?_
      refine ks_iconst (x := nI 2) dX16_bits_35 (by decide) rfl ?_
      refine ks_subN (by omega) dX16_bits_36 rfl ?_
      refine ks_callS (n := 2) (M' := mX16_byteOf) (c_md_byteOf (d := d) (i := n - 2) hA ha9 (by omega)) kx_2039 kx_2040 kx_30 kx_2041 (by decide +kernel) rfl (by decide) (Nat.le_of_ble_eq_true rfl) rfl dX16_bits_37 rfl (fun z2 T2 y2 => ?_)
      obtain ⟨rfl, hT2⟩ := y2
      obtain rfl := hT2.symm
      have b2 : A / 256 ^ (n - 2) % 256 = tb A n 2 := by unfold tb; rw [if_pos (by omega)]
      have c2 := tb_lt A n 2
      rw [b2]
      refine ks_bipush (x := nI 8) dX16_bits_40 (by decide) rfl ?_
      refine ks_shlN (k := 8) (by decide) (by omega) dX16_bits_42 rfl ?_
      refine ks_or2 (a := (tb A n 1)) (k := 16) (by omega) (by omega) dX16_bits_43 rfl ?_
      refine ks_aload_n dX16_bits_44 rfl rfl ?_
      refine ks_iload_n dX16_bits_45 rfl rfl ?_
      refine ks_iconst (x := nI 3) dX16_bits_46 (by decide) rfl ?_
      refine ks_subN (by omega) dX16_bits_47 rfl ?_
      refine ks_callS (n := 2) (M' := mX16_byteOf) (c_md_byteOf (d := d) (i := n - 3) hA ha9 (by omega)) kx_2039 kx_2040 kx_30 kx_2041 (by decide +kernel) rfl (by decide) (Nat.le_of_ble_eq_true rfl) rfl dX16_bits_48 rfl (fun z3 T3 y3 => ?_)
      obtain ⟨rfl, hT3⟩ := y3
      obtain rfl := hT3.symm
      have b3 : A / 256 ^ (n - 3) % 256 = tb A n 3 := by unfold tb; rw [if_pos (by omega)]
      have c3 := tb_lt A n 3
      rw [b3]
      refine ks_ior dX16_bits_51 rfl ?_
      exact ks_sub [(0, _), (1, _)] rfl (T _ (ks_orN (k := 8) ⟨tb A n 1 * 2 ^ 8 + tb A n 2, by omega⟩ (by omega)))
  have loop : ∀ n, n ≤ 32 → A < 256 ^ n → tg_len A 34 = tg_len A n → ks_X l G mX16_bits (d + 1) 3 [(0, .ref a), (1, .int (nI n))] [] S (fun z S' => z = some (.int (nI (tg_bits A))) ∧ S' = S) := by
    intro n
    induction n with
    | zero =>
      intro hn hlt hlen
      refine ks_iload_n dX16_bits_3 rfl rfl ?_
      refine ks_if_leN (tgt := 23) (by decide) dX16_bits_4 (by decide) rfl (fun _ => ?_) (fun h => absurd h (by decide))
      exact mid 0 hn hlt hlen
    | succ n ih =>
      intro hn hlt hlen
      refine ks_iload_n dX16_bits_3 rfl rfl ?_
      refine ks_if_leN (tgt := 23) (by omega) dX16_bits_4 (by decide) rfl (fun h1 => absurd h1 (by omega)) (fun h1 => ?_)
      refine ks_aload_n dX16_bits_7 rfl rfl ?_
      refine ks_iload_n dX16_bits_8 rfl rfl ?_
      refine ks_iconst (x := nI 1) dX16_bits_9 (by decide) rfl ?_
      refine ks_subN (by omega) dX16_bits_10 rfl ?_
      refine ks_ti (y := nI n) (by rw [Nat.add_sub_cancel]) ?_
      refine ks_callS (n := 2) (M' := mX16_byteOf) (c_md_byteOf (d := d) (i := n) hA ha9 (by omega)) kx_2039 kx_2040 kx_30 kx_2041 (by decide +kernel) rfl (by decide) (Nat.le_of_ble_eq_true rfl) rfl dX16_bits_11 rfl (fun z1 T1 y1 => ?_)
      obtain ⟨rfl, hT1⟩ := y1
      obtain rfl := hT1.symm
      have bl : A / 256 ^ n % 256 < 256 := Nat.mod_lt _ (by decide)
      refine ks_if_neN (tgt := 23) (by omega) dX16_bits_14 (by decide) rfl (fun h2 => ?_) (fun h2 => ?_)
      · refine mid (n + 1) hn hlt ?_
        rw [hlen]
        show (if A < 256 ^ n then tg_len A n else n + 1) = n + 1
        rw [if_neg (len_up h2)]
      · refine ks_decN (e := n) dX16_bits_17 rfl (by decide) (by omega) (by decide) rfl ?_
        refine ks_sub [(1, _), (0, _)] rfl ?_
        refine ks_goto (tgt := 3) dX16_bits_20 (by decide) ?_
        refine ks_sub [(0, _), (1, _)] rfl (ih (by omega) (len_dn hlt h2) ?_)
        rw [hlen]
        show (if A < 256 ^ n then tg_len A n else n + 1) = _
        rw [if_pos (len_dn hlt h2)]
  refine ks_of (by decide) rfl rfl (Nat.le_of_ble_eq_true rfl) ?_
  show ks_X l G mX16_bits (d + 1) 0 [(0, .ref a)] [] S _
  refine ks_bipush (x := nI 32) dX16_bits_0 (by decide) rfl ?_
  refine ks_istore_n dX16_bits_2 (by decide) rfl ?_
  refine ks_sub [(1, _), (0, _)] rfl ?_
  exact ks_sub [(0, _), (1, _)] rfl (loop 32 (Nat.le_refl _) (by have : (256 : Nat) ^ 32 = 2 ^ 256 := by decide +kernel
                                                                 omega) l34)
