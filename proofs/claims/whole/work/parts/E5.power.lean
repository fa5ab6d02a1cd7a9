/-! RING: into and out of the product's form, powers -/
theorem ishr_bit {w k : Nat} (hk : k < 32) : (nI w >>> (nI k &&& 31)) &&& nI 1 = nI (w / 2 ^ k % 2) := by
  apply Int32.toBitVec_inj.mp
  have hs : ((nI k &&& 31).toBitVec.smod 32).toNat = k := (by decide +kernel : ∀ k, k < 32 → ((nI k &&& 31).toBitVec.smod 32).toNat = k) k hk
  show (BitVec.ofNat 32 w).sshiftRight (((nI k &&& 31).toBitVec.smod 32).toNat) &&& 1#32 = BitVec.ofNat 32 (w / 2 ^ k % 2)
  rw [hs]
  have hb : ((BitVec.ofNat 32 w).sshiftRight k).getLsbD 0 = decide (w / 2 ^ k % 2 = 1) := by
    rw [BitVec.getLsbD_sshiftRight, ← Nat.testBit_eq_decide_div_mod_eq]
    simp [hk]
    rw [BitVec.getElem_eq_testBit_toNat, BitVec.toNat_ofNat, Nat.testBit_mod_two_pow]
    simp [hk]
  rw [BitVec.and_one_eq_setWidth_ofBool_getLsbD, hb]
  rcases Nat.mod_two_eq_zero_or_one (w / 2 ^ k) with h | h
  · rw [h]; decide
  · rw [h]; decide
theorem dg_bit {g : Nat → Nat} {n b : Nat} (hg : ∀ j, j < n → g j < 4294967296) (hb : b / 32 < n) : dg 4294967296 g n / 2 ^ b % 2 = g (b / 32) / 2 ^ (b % 32) % 2 := by
  have e : 2 ^ b = 4294967296 ^ (b / 32) * 2 ^ (b % 32) := by
    rw [show (4294967296 : Nat) = 2 ^ 32 from rfl, ← Nat.pow_mul, ← Nat.pow_add]
    congr 1
    omega
  have h1 := dg_dig (B := 4294967296) (by decide) hg hb
  rw [e, ← Nat.div_div_eq_div_mul, ← h1]
  generalize dg 4294967296 g n / 4294967296 ^ (b / 32) = x
  have hr : b % 32 < 32 := Nat.mod_lt _ (by decide)
  generalize b % 32 = r at *
  have e2 : (4294967296 : Nat) = 2 ^ r * (2 * 2 ^ (31 - r)) := by
    rw [← Nat.pow_succ', ← Nat.pow_add]
    have : r + (31 - r).succ = 32 := by omega
    rw [this]
  rw [e2, Nat.mod_mul_right_div_self, Nat.mod_mul_right_mod]
/-- a ring with its constants -/
def rgF (S : ks_S) (o m mu : Nat) : Prop := rgX S o m (nI mu) ∧ wA S (o + 2) (2 ^ 256 % m) ∧ wA S (o + 3) (2 ^ 512 % m) ∧ wA S (o + 4) 1 ∧ (∃ V, wA S (o + 6) V) ∧ ∃ V, wA S (o + 7) V
/-- the numbers of a ring -/
def rgN (m mu ri : Nat) : Prop := (mu * m + 1) % 4294967296 = 0 ∧ (2 ^ 256 * ri) % m = 1 ∧ 1 < m
theorem rgF.up {S S1 : ks_S} {o m mu : Nat} {L : List Nat} (h : rgF S o m mu) (hu : ks_up S S1 L) (hL : ∀ x ∈ L, x < o ∨ o + 7 < x) : rgF S1 o m mu := by
  have n : ∀ k, k ≤ 7 → o + k ∉ L := fun k hk q => by have := hL _ q; omega
  obtain ⟨h1, h2, h3, h4, ⟨V, h5⟩, ⟨W, h6⟩⟩ := h
  exact ⟨h1.up hu (n 0 (by decide)) (n 1 (by decide)) (n 5 (by decide)), h2.up hu (n 2 (by decide)), h3.up hu (n 3 (by decide)), h4.up hu (n 4 (by decide)), ⟨V, h5.up hu (n 6 (by decide))⟩, ⟨W, h6.up hu (n 7 (by decide))⟩⟩
theorem rgF.row {S S1 : ks_S} {o m mu : Nat} {L : List Nat} (h : rgF S o m mu) (hu : ks_up S S1 ((o + 5) :: L)) (hL : ∀ x ∈ L, x < o ∨ o + 7 < x) (hrow : ∃ g, S1.2.2 (o + 5) = some (kN 10 g) ∧ ∀ j, j < 10 → g j < 4294967296) : rgF S1 o m mu := by
  have n : ∀ k, k ≤ 7 → k ≠ 5 → o + k ∉ (o + 5) :: L := fun k hk h5 q => by
    rcases List.mem_cons.mp q with h | h
    · omega
    · have := hL _ h; omega
  obtain ⟨⟨a1, a2, -, a4⟩, h2, h3, h4, ⟨V, h5⟩, ⟨W, h6⟩⟩ := h
  exact ⟨⟨hu.at a1 (n 0 (by decide) (by decide)), a2.up hu (n 1 (by decide) (by decide)), hrow, a4⟩, h2.up hu (n 2 (by decide) (by decide)), h3.up hu (n 3 (by decide) (by decide)), h4.up hu (n 4 (by decide) (by decide)), ⟨V, h5.up hu (n 6 (by decide) (by decide))⟩, ⟨W, h6.up hu (n 7 (by decide) (by decide))⟩⟩
theorem mont_in {A m ri : Nat} (hri : (2 ^ 256 * ri) % m = 1) : A * (2 ^ 512 % m) * ri % m = A * 2 ^ 256 % m := by
  have e : A * 2 ^ 512 * ri = A * 2 ^ 256 * (2 ^ 256 * ri) := by
    rw [show (2 : Nat) ^ 512 = 2 ^ 256 * 2 ^ 256 from by rw [← Nat.pow_add], ← Nat.mul_assoc, ← Nat.mul_assoc, Nat.mul_assoc (A * 2 ^ 256)]
  rw [Nat.mul_mod, Nat.mul_mod A, Nat.mod_mod, ← Nat.mul_mod A, ← Nat.mul_mod, e, Nat.mul_mod, hri, Nat.mul_one, Nat.mod_mod]
theorem mont_mul {x y m ri : Nat} (hri : (2 ^ 256 * ri) % m = 1) : (x * 2 ^ 256 % m) * (y * 2 ^ 256 % m) * ri % m = x * y * 2 ^ 256 % m := by
  have e : x * 2 ^ 256 * (y * 2 ^ 256) * ri = x * y * 2 ^ 256 * (2 ^ 256 * ri) := by
    rw [Nat.mul_mul_mul_comm, Nat.mul_assoc (x * y), Nat.mul_assoc (x * y), Nat.mul_assoc (2 ^ 256)]
  rw [Nat.mul_mod (x * 2 ^ 256 % m * (y * 2 ^ 256 % m)) ri, ← Nat.mul_mod (x * 2 ^ 256) (y * 2 ^ 256), ← Nat.mul_mod, e, Nat.mul_mod, hri, Nat.mul_one, Nat.mod_mod]
theorem mont_out {x m ri : Nat} (hri : (2 ^ 256 * ri) % m = 1) : (x * 2 ^ 256 % m) * 1 * ri % m = x % m := by
  rw [Nat.mul_one, Nat.mul_mod, Nat.mod_mod, ← Nat.mul_mod, Nat.mul_assoc, Nat.mul_mod, hri, Nat.mul_one, Nat.mod_mod]
/-- the product by the ring's contract -/
theorem c_rg_mulF {l : Launch} {G : ks_G} {d : Nat} {S : ks_S} {o m a b t A B T mu ri : Nat} (hF : rgF S o m mu) (hN : rgN m mu ri) (hA : wA S a A) (hB : wA S b B) (hT : wA S t T) (ha9 : a < ks_B ∧ a ≠ o + 5) (hb9 : b < ks_B ∧ b ≠ o + 5) (ht9 : t < ks_B ∧ (t < o ∨ o + 7 < t)) (hBm : B < m) : ks_P l G yX15_multiply mX15_multiply (d + 1) [.ref o, .ref a, .ref b, .ref t] S (fun z S' => z = none ∧ ks_up S S' [o + 5, t] ∧ rgF S' o m mu ∧ wA S' t (A * B * ri % m)) := by
  refine (c_rg_mul hF.1 hA hB hT ht9.1 ha9.1 hb9.1 ⟨by omega, by omega⟩ ha9.2 hb9.2 hBm hN.1 hN.2.1).mono (fun z S' hq => ?_)
  obtain ⟨h1, h2, h3, h4⟩ := hq
  exact ⟨h1, h2, hF.row h2 (fun x hx => by rw [List.mem_singleton] at hx; omega) h3, h4⟩
theorem nI_m2 (k : Nat) : nI (k + 2) + (-2) = nI k := by
  have e1 : nI (k + 2) = nI k + 2 := (nI_add k 2).symm
  rw [e1, Int32.add_assoc]
  exact Int32.add_zero _
set_option maxRecDepth 100000 in
set_option maxHeartbeats 800000 in
theorem c_rg_enter {l : Launch} {G : ks_G} {d : Nat} {S : ks_S} {o m a t A T mu ri : Nat} (hF : rgF S o m mu) (hN : rgN m mu ri) (hA : wA S a A) (hT : wA S t T) (ha9 : a < ks_B ∧ a ≠ o + 5) (ht9 : t < ks_B ∧ (t < o ∨ o + 7 < t)) : ks_P l G yX15_enter mX15_enter (d + 2) [.ref o, .ref a, .ref t] S (fun z S' => z = none ∧ ks_up S S' [o + 5, t] ∧ rgF S' o m mu ∧ wA S' t (A * 2 ^ 256 % m)) := by
  have ho9 := hF.1.2.2.2
  have m1 := hN.2.2
  have hro := hF.1.1
  refine ks_of (by decide) rfl rfl (Nat.le_of_ble_eq_true rfl) ?_
  show ks_X l G mX15_enter (d + 2) 0 [(0, .ref o), (1, .ref a), (2, .ref t)] [] S _
  refine ks_aload_n dX15_enter_0 rfl rfl ?_
  refine ks_aload_n dX15_enter_1 rfl rfl ?_
  refine ks_aload_n dX15_enter_2 rfl rfl ?_
  refine ks_getf (T := TX15) (kf := 3) kx_1883 rfl in_X15 cl_X15 (by decide) hro rfl dX15_enter_3 rfl ?_
  refine ks_aload_n dX15_enter_6 rfl rfl ?_
  refine ks_callV (n := 3) (M' := mX15_multiply) (c_rg_mulF (d := d) hF hN hA hF.2.2.1 hT ha9 ⟨by omega, by omega⟩ ht9 (Nat.mod_lt _ (by omega))) hro cl_X15 rfl kx_1921 kx_1922 kx_1923 kx_33 kx_1924 (by decide +kernel) rfl (by decide) (Nat.le_of_ble_eq_true rfl) rfl dX15_enter_7 rfl (fun z1 T1 y1 => ?_)
  obtain ⟨rfl, u1, F1, w1⟩ := y1
  refine ks_ret rfl dX15_enter_10 ?_
  rw [mont_in hN.2.1] at w1
  exact ⟨rfl, u1, F1, w1⟩
set_option maxRecDepth 100000 in
set_option maxHeartbeats 800000 in
theorem c_rg_leave {l : Launch} {G : ks_G} {d : Nat} {S : ks_S} {o m a t A T mu ri : Nat} (hF : rgF S o m mu) (hN : rgN m mu ri) (hA : wA S a A) (hT : wA S t T) (ha9 : a < ks_B ∧ a ≠ o + 5) (ht9 : t < ks_B ∧ (t < o ∨ o + 7 < t)) : ks_P l G yX15_leave mX15_leave (d + 2) [.ref o, .ref a, .ref t] S (fun z S' => z = none ∧ ks_up S S' [o + 5, t] ∧ rgF S' o m mu ∧ wA S' t (A * 1 * ri % m)) := by
  have ho9 := hF.1.2.2.2
  have m1 := hN.2.2
  have hro := hF.1.1
  refine ks_of (by decide) rfl rfl (Nat.le_of_ble_eq_true rfl) ?_
  show ks_X l G mX15_leave (d + 2) 0 [(0, .ref o), (1, .ref a), (2, .ref t)] [] S _
  refine ks_aload_n dX15_leave_0 rfl rfl ?_
  refine ks_aload_n dX15_leave_1 rfl rfl ?_
  refine ks_aload_n dX15_leave_2 rfl rfl ?_
  refine ks_getf (T := TX15) (kf := 4) kx_1884 rfl in_X15 cl_X15 (by decide) hro rfl dX15_leave_3 rfl ?_
  refine ks_aload_n dX15_leave_6 rfl rfl ?_
  refine ks_callV (n := 3) (M' := mX15_multiply) (c_rg_mulF (d := d) hF hN hA hF.2.2.2.1 hT ha9 ⟨by omega, by omega⟩ ht9 (m1)) hro cl_X15 rfl kx_1921 kx_1922 kx_1923 kx_33 kx_1924 (by decide +kernel) rfl (by decide) (Nat.le_of_ble_eq_true rfl) rfl dX15_leave_7 rfl (fun z1 T1 y1 => ?_)
  obtain ⟨rfl, u1, F1, w1⟩ := y1
  refine ks_ret rfl dX15_leave_10 ?_
  exact ⟨rfl, u1, F1, w1⟩
set_option maxRecDepth 100000 in
set_option maxHeartbeats 1600000 in
theorem c_rg_powerM {l : Launch} {G : ks_G} {d : Nat} {S : ks_S} {o m a t x T mu ri : Nat} (hF : rgF S o m mu) (hN : rgN m mu ri) (hm0 : 2 ≤ m % 4294967296) (hA : wA S a (x * 2 ^ 256 % m)) (hT : wA S t T) (ha9 : a < ks_B ∧ (a < o ∨ o + 7 < a)) (ht9 : t < ks_B ∧ (t < o ∨ o + 7 < t)) : ks_P l G yX15_power mX15_power (d + 2) [.ref o, .ref a, .int (-2), .int (nI 0), .ref t] S (fun z S' => z = none ∧ ks_up S S' [o + 5, o + 6, o + 7, t] ∧ rgF S' o m mu ∧ wA S' t (x ^ ((m - 2) / 2 ^ 0) * 2 ^ 256 % m)) := by
  have ho9 := hF.1.2.2.2
  have m1 := hN.2.2
  have hro := hF.1.1
  obtain ⟨gm, egm, bgm, dgm⟩ := id hF.1.2.1
  obtain ⟨V6, hV6⟩ := hF.2.2.2.2.1
  obtain ⟨V7, hV7⟩ := hF.2.2.2.2.2
  have gm0 : m % 4294967296 = gm 0 := by
    have := dg_dig (B := 4294967296) (by decide) (f := gm) (n := 8) (j := 0) bgm (by decide)
    rw [Nat.pow_zero, Nat.div_one, dgm] at this
    exact this
  rw [gm0] at hm0
  have q0 := bgm 0 (by decide)
  have hE : ∃ ge : Nat → Nat, (∀ j, j < 8 → ge j < 4294967296) ∧ dg 4294967296 ge 8 = (m - 2) ∧ ge 0 = gm 0 - 2 ∧ ∀ j, 0 < j → ge j = gm j := by
    refine ⟨va_up gm 0 (gm 0 - 2), fun j hj => ?_, ?_, va_up_self _ _ _, fun j hj => va_up_ne _ _ (by omega)⟩
    · by_cases e : j = 0
      · subst e; rw [va_up_self]; omega
      · rw [va_up_ne _ _ e]; exact bgm j hj
    · have h := dg_up (B := 4294967296) (f := gm) (n := 8) (j := 0) (c := gm 0 - 2) (by decide)
      rw [Nat.pow_zero, Nat.mul_one, Nat.mul_one, dgm] at h
      omega
  obtain ⟨ge, bge, dge, ge0, gej⟩ := hE
  have rpos : 0 < m := by omega
  have loop : ∀ (u : Nat) (S1 : ks_S), u ≤ 256 → 0 ≤ u → ks_up S S1 [o + 5, o + 6, o + 7] → rgF S1 o m mu → wA S1 (o + 6) (x * 2 ^ 256 % m) → wA S1 (o + 7) (x ^ ((m - 2) / 2 ^ u) * 2 ^ 256 % m) → ks_X l G mX15_power (d + 2) 24 [(0, .ref o), (1, .ref a), (2, .int (-2)), (3, .int (nI 0)), (4, .ref t), (5, .int (nI u - 1))] [] S1 (fun z S' => z = none ∧ ks_up S S' [o + 5, o + 6, o + 7, t] ∧ rgF S' o m mu ∧ wA S' t (x ^ ((m - 2) / 2 ^ 0) * 2 ^ 256 % m)) := by
    intro u
    induction u with
    | zero =>
      intro S1 h256 hsh hu F1 h6 h7
      refine ks_iload dX15_power_24 rfl rfl ?_
      refine ks_iload_n dX15_power_26 rfl rfl ?_
      refine ks_icmp_lt (tgt := 112) dX15_power_27 (by decide) rfl (fun _ => ?_) (fun h => absurd (by decide) h)
      have hT1 := hT.up hu (by simp only [List.mem_cons, List.not_mem_nil, or_false]; omega)
      have r1 := F1.1.1
      refine ks_aload_n dX15_power_112 rfl rfl ?_
      refine ks_getf (T := TX15) (kf := 7) kx_1887 rfl in_X15 cl_X15 (by decide) r1 rfl dX15_power_113 rfl ?_
      refine ks_aload dX15_power_116 rfl rfl ?_
      refine ks_callS (n := 2) (M' := mX15_copy) (c_rg_copy (d := d + 1) h7 hT1 ht9.1) kx_1875 kx_1876 kx_33 kx_1877 (by decide +kernel) rfl (by decide) (Nat.le_of_ble_eq_true rfl) rfl dX15_power_118 rfl (fun z9 T9 y9 => ?_)
      obtain ⟨rfl, u9, w9⟩ := y9
      refine ks_ret rfl dX15_power_121 ?_
      refine ⟨rfl, (hu.mono ?_).trans (u9.mono ?_), F1.up u9 (fun x hx => by rw [List.mem_singleton] at hx; omega), w9⟩
      · intro x hx; simp only [List.mem_cons, List.not_mem_nil, or_false] at hx ⊢; omega
      · intro x hx; simp only [List.mem_cons, List.not_mem_nil, or_false] at hx ⊢; omega
    | succ u ih =>
      intro S1 h256 hsh hu F1 h6 h7
      rw [nI_D (by omega : 0 < u + 1), Nat.add_sub_cancel]
      have r1 := F1.1.1
      refine ks_iload dX15_power_24 rfl rfl ?_
      refine ks_iload_n dX15_power_26 rfl rfl ?_
      refine ks_icmp_ltN (tgt := 112) (by omega) (by decide) dX15_power_27 (by decide) rfl (fun h1 => absurd h1 (by omega)) (fun h1 => ?_)
      refine ks_aload_n dX15_power_30 rfl rfl ?_
      refine ks_aload_n dX15_power_31 rfl rfl ?_
      refine ks_getf (T := TX15) (kf := 7) kx_1887 rfl in_X15 cl_X15 (by decide) r1 rfl dX15_power_32 rfl ?_
      refine ks_aload_n dX15_power_35 rfl rfl ?_
      refine ks_getf (T := TX15) (kf := 7) kx_1887 rfl in_X15 cl_X15 (by decide) r1 rfl dX15_power_36 rfl ?_
      refine ks_aload_n dX15_power_39 rfl rfl ?_
      refine ks_getf (T := TX15) (kf := 7) kx_1887 rfl in_X15 cl_X15 (by decide) r1 rfl dX15_power_40 rfl ?_
      refine ks_callV (n := 3) (M' := mX15_multiply) (c_rg_mul (d := d) F1.1 h7 h7 h7 (by omega) (by omega) (by omega) ⟨by omega, by omega⟩ (by omega) (by omega) (Nat.mod_lt _ rpos) hN.1 hN.2.1) r1 cl_X15 rfl kx_1921 kx_1922 kx_1923 kx_33 kx_1924 (by decide +kernel) rfl (by decide) (Nat.le_of_ble_eq_true rfl) rfl dX15_power_43 rfl (fun z2 T2 y2 => ?_)
      obtain ⟨rfl, u2, row2, w2⟩ := y2
      rw [mont_mul hN.2.1] at w2
      have hu2 : ks_up S T2 [o + 5, o + 6, o + 7] := hu.trans (u2.mono (by intro x hx; simp only [List.mem_cons, List.not_mem_nil, or_false] at hx ⊢; omega))
      have n2 : ∀ k, k ≤ 6 → k ≠ 5 → o + k ∉ [o + 5, o + 7] := fun k h1 h2 h3 => by simp only [List.mem_cons, List.not_mem_nil, or_false] at h3; omega
      have F2 : rgF T2 o m mu := by
        obtain ⟨⟨a1, a2, -, a4⟩, b2, b3, b4, ⟨V, b5⟩, -⟩ := F1
        exact ⟨⟨u2.at a1 (n2 0 (by decide) (by decide)), a2.up u2 (n2 1 (by decide) (by decide)), row2, a4⟩, b2.up u2 (n2 2 (by decide) (by decide)), b3.up u2 (n2 3 (by decide) (by decide)), b4.up u2 (n2 4 (by decide) (by decide)), ⟨V, b5.up u2 (n2 6 (by decide) (by decide))⟩, ⟨_, w2⟩⟩
      have h62 := h6.up u2 (n2 6 (by decide) (by decide))
      have r2 := F2.1.1
      have eg2 := hu2.at egm (by simp only [List.mem_cons, List.not_mem_nil, or_false]; omega)
      have ehalf := at_half (m - 2) u
      have ebit : (m - 2) / 2 ^ u % 2 = ge (u / 32) / 2 ^ (u % 32) % 2 := by rw [← dge]; exact dg_bit bge (by omega)
      have u32 : u % 32 < 32 := Nat.mod_lt _ (by decide)
      have ud : u / 32 < 8 := by omega
      have k74 : ks_X l G mX15_power (d + 2) 74 [(0, .ref o), (1, .ref a), (2, .int (-2)), (3, .int (nI 0)), (4, .ref t), (5, .int (nI u))] [.int (nI (ge (u / 32)))] T2 (fun z S' => z = none ∧ ks_up S S' [o + 5, o + 6, o + 7, t] ∧ rgF S' o m mu ∧ wA S' t (x ^ ((m - 2) / 2 ^ 0) * 2 ^ 256 % m)) := by
        refine ks_istore dX15_power_74 (by decide) rfl ?_
        refine ks_sub [(6, _), (0, _), (1, _), (2, _), (3, _), (4, _), (5, _)] rfl ?_
        refine ks_iload dX15_power_76 rfl rfl ?_
        refine ks_iload dX15_power_78 rfl rfl ?_
        refine ks_bipush (x := nI 32) dX15_power_80 (by decide) rfl ?_
        refine ks_remN (by omega) (by decide) (by decide) dX15_power_82 rfl ?_
        refine ks_ishr dX15_power_83 rfl ?_
        refine ks_iconst (x := nI 1) dX15_power_84 (by decide) rfl ?_
        refine ks_iand dX15_power_85 rfl ?_
        refine ks_ti (y := nI (ge (u / 32) / 2 ^ (u % 32) % 2)) (ishr_bit u32) ?_
        rw [← ebit]
        have b2 : (m - 2) / 2 ^ u % 2 < 2 := Nat.mod_lt _ (by decide)
        refine ks_iconst (x := nI 1) dX15_power_86 (by decide) rfl ?_
        refine ks_icmp_neN (tgt := 106) (by omega) (by decide) dX15_power_87 (by decide) rfl (fun h3 => ?_) (fun h3 => ?_)
        · refine ks_incD dX15_power_106 rfl (by decide) (by decide) rfl ?_
          refine ks_sub [(5, _), (0, _), (1, _), (2, _), (3, _), (4, _), (6, _)] rfl ?_
          refine ks_goto (tgt := 24) dX15_power_109 (by decide) ?_
          refine ks_sub [(0, _), (1, _), (2, _), (3, _), (4, _), (5, _)] rfl (ih T2 (by omega) (by omega) hu2 F2 h62 ?_)
          have e0 : (m - 2) / 2 ^ u = (m - 2) / 2 ^ (u + 1) + (m - 2) / 2 ^ (u + 1) := by omega
          rw [e0, Nat.pow_add]
          exact w2
        · refine ks_aload_n dX15_power_90 rfl rfl ?_
          refine ks_aload_n dX15_power_91 rfl rfl ?_
          refine ks_getf (T := TX15) (kf := 7) kx_1887 rfl in_X15 cl_X15 (by decide) r2 rfl dX15_power_92 rfl ?_
          refine ks_aload_n dX15_power_95 rfl rfl ?_
          refine ks_getf (T := TX15) (kf := 6) kx_1886 rfl in_X15 cl_X15 (by decide) r2 rfl dX15_power_96 rfl ?_
          refine ks_aload_n dX15_power_99 rfl rfl ?_
          refine ks_getf (T := TX15) (kf := 7) kx_1887 rfl in_X15 cl_X15 (by decide) r2 rfl dX15_power_100 rfl ?_
          refine ks_callV (n := 3) (M' := mX15_multiply) (c_rg_mul (d := d) F2.1 w2 h62 w2 (by omega) (by omega) (by omega) ⟨by omega, by omega⟩ (by omega) (by omega) (Nat.mod_lt _ rpos) hN.1 hN.2.1) r2 cl_X15 rfl kx_1921 kx_1922 kx_1923 kx_33 kx_1924 (by decide +kernel) rfl (by decide) (Nat.le_of_ble_eq_true rfl) rfl dX15_power_103 rfl (fun z4 T4 y4 => ?_)
          obtain ⟨rfl, u4, row4, w4⟩ := y4
          rw [mont_mul hN.2.1] at w4
          have hu4 : ks_up S T4 [o + 5, o + 6, o + 7] := hu2.trans (u4.mono (by intro x hx; simp only [List.mem_cons, List.not_mem_nil, or_false] at hx ⊢; omega))
          have F4 : rgF T4 o m mu := by
            obtain ⟨⟨a1, a2, -, a4⟩, b2, b3, b4, ⟨V, b5⟩, -⟩ := F2
            exact ⟨⟨u4.at a1 (n2 0 (by decide) (by decide)), a2.up u4 (n2 1 (by decide) (by decide)), row4, a4⟩, b2.up u4 (n2 2 (by decide) (by decide)), b3.up u4 (n2 3 (by decide) (by decide)), b4.up u4 (n2 4 (by decide) (by decide)), ⟨V, b5.up u4 (n2 6 (by decide) (by decide))⟩, ⟨_, w4⟩⟩
          have h64 := h62.up u4 (n2 6 (by decide) (by decide))
          refine ks_incD dX15_power_106 rfl (by decide) (by decide) rfl ?_
          refine ks_sub [(5, _), (0, _), (1, _), (2, _), (3, _), (4, _), (6, _)] rfl ?_
          refine ks_goto (tgt := 24) dX15_power_109 (by decide) ?_
          refine ks_sub [(0, _), (1, _), (2, _), (3, _), (4, _), (5, _)] rfl (ih T4 (by omega) (by omega) hu4 F4 h64 ?_)
          have e0 : (m - 2) / 2 ^ u = (m - 2) / 2 ^ (u + 1) + (m - 2) / 2 ^ (u + 1) + 1 := by omega
          rw [e0, Nat.pow_succ, Nat.pow_add]
          exact w4
      refine ks_iload dX15_power_46 rfl rfl ?_
      refine ks_bipush (x := nI 32) dX15_power_48 (by decide) rfl ?_
      refine ks_icmp_geN (tgt := 64) (by omega) (by decide) dX15_power_50 (by decide) rfl (fun h2 => ?_) (fun h2 => ?_)
      · have u1 := gej (u / 32) (by omega)
        rw [u1] at k74
        refine ks_aload_n dX15_power_64 rfl rfl ?_
        refine ks_getf (T := TX15) (kf := 0) kx_1878 rfl in_X15 cl_X15 (by decide) r2 rfl dX15_power_65 rfl ?_
        refine ks_iload dX15_power_68 rfl rfl ?_
        refine ks_bipush (x := nI 32) dX15_power_70 (by decide) rfl ?_
        refine ks_divN (by omega) (by decide) (by decide) dX15_power_72 rfl ?_
        refine ks_ialdN (i := u / 32) eg2 rfl (by omega) (by decide) dX15_power_73 rfl ?_
        exact ks_sub [(0, _), (1, _), (2, _), (3, _), (4, _), (5, _)] rfl k74
      · have u0 : u / 32 = 0 := by omega
        rw [u0, ge0] at k74
        refine ks_aload_n dX15_power_53 rfl rfl ?_
        refine ks_getf (T := TX15) (kf := 0) kx_1878 rfl in_X15 cl_X15 (by decide) r2 rfl dX15_power_54 rfl ?_
        refine ks_iconst (x := nI 0) dX15_power_57 (by decide) rfl ?_
        refine ks_ialdN (i := 0) eg2 rfl (by decide) (by decide) dX15_power_58 rfl ?_
        refine ks_iload_n dX15_power_59 rfl rfl ?_
        refine ks_iadd dX15_power_60 rfl ?_
        refine ks_ti (y := nI (gm 0 - 2)) (by rw [show gm 0 = gm 0 - 2 + 2 by omega, Nat.add_sub_cancel]; exact nI_m2 _) ?_
        refine ks_goto (tgt := 74) dX15_power_61 (by decide) ?_
        exact ks_sub [(0, _), (1, _), (2, _), (3, _), (4, _), (5, _)] rfl k74
  refine ks_of (by decide) rfl rfl (Nat.le_of_ble_eq_true rfl) ?_
  show ks_X l G mX15_power (d + 2) 0 [(0, .ref o), (1, .ref a), (2, .int (-2)), (3, .int (nI 0)), (4, .ref t)] [] S _
  refine ks_aload_n dX15_power_0 rfl rfl ?_
  refine ks_aload_n dX15_power_1 rfl rfl ?_
  refine ks_getf (T := TX15) (kf := 6) kx_1886 rfl in_X15 cl_X15 (by decide) hro rfl dX15_power_2 rfl ?_
  refine ks_callS (n := 2) (M' := mX15_copy) (c_rg_copy (d := d + 1) hA hV6 (by omega)) kx_1875 kx_1876 kx_33 kx_1877 (by decide +kernel) rfl (by decide) (Nat.le_of_ble_eq_true rfl) rfl dX15_power_5 rfl (fun z0 T0 y0 => ?_)
  obtain ⟨rfl, u0, w0⟩ := y0
  have r0 := u0.at hro (by rw [List.mem_singleton]; omega)
  have o2 := hF.2.1.up u0 (by rw [List.mem_singleton]; omega)
  have v7 := hV7.up u0 (by rw [List.mem_singleton]; omega)
  refine ks_aload_n dX15_power_8 rfl rfl ?_
  refine ks_getf (T := TX15) (kf := 2) kx_1881 rfl in_X15 cl_X15 (by decide) r0 rfl dX15_power_9 rfl ?_
  refine ks_aload_n dX15_power_12 rfl rfl ?_
  refine ks_getf (T := TX15) (kf := 7) kx_1887 rfl in_X15 cl_X15 (by decide) r0 rfl dX15_power_13 rfl ?_
  refine ks_callS (n := 2) (M' := mX15_copy) (c_rg_copy (d := d + 1) o2 v7 (by omega)) kx_1875 kx_1876 kx_33 kx_1877 (by decide +kernel) rfl (by decide) (Nat.le_of_ble_eq_true rfl) rfl dX15_power_16 rfl (fun z1 T1 y1 => ?_)
  obtain ⟨rfl, u1, w1⟩ := y1
  have hu1 : ks_up S T1 [o + 5, o + 6, o + 7] := (u0.mono (by intro x hx; simp only [List.mem_cons, List.not_mem_nil, or_false] at hx ⊢; omega)).trans (u1.mono (by intro x hx; simp only [List.mem_cons, List.not_mem_nil, or_false] at hx ⊢; omega))
  have uX : ks_up S T1 [o + 6, o + 7] := (u0.mono (by intro x hx; simp only [List.mem_cons, List.not_mem_nil, or_false] at hx ⊢; omega)).trans (u1.mono (by intro x hx; simp only [List.mem_cons, List.not_mem_nil, or_false] at hx ⊢; omega))
  have nX : ∀ k, k ≤ 5 → o + k ∉ [o + 6, o + 7] := fun k h1 h3 => by simp only [List.mem_cons, List.not_mem_nil, or_false] at h3; omega
  have w01 := w0.up u1 (by rw [List.mem_singleton]; omega)
  have F1 : rgF T1 o m mu := by
    obtain ⟨a, b2, b3, b4, -, -⟩ := hF
    exact ⟨a.up uX (nX 0 (by decide)) (nX 1 (by decide)) (nX 5 (by decide)), b2.up uX (nX 2 (by decide)), b3.up uX (nX 3 (by decide)), b4.up uX (nX 4 (by decide)), ⟨_, w01⟩, ⟨_, w1⟩⟩
  refine ks_sipush (x := nI 255) dX15_power_19 (by decide) rfl ?_
  refine ks_ti (y := nI 256 - 1) (by decide) ?_
  refine ks_istore dX15_power_22 (by decide) rfl ?_
  refine ks_sub [(5, _), (0, _), (1, _), (2, _), (3, _), (4, _)] rfl ?_
  have m256 := hF.1.2.1.lt
  refine ks_sub [(0, _), (1, _), (2, _), (3, _), (4, _), (5, _)] rfl (loop 256 T1 (Nat.le_refl _) (by decide) hu1 F1 w01 ?_)
  rw [Nat.div_eq_of_lt (by have : (m - 2) < 2 ^ 256 := by rw [← dge]; exact dg_lt bge
                           exact this), Nat.pow_zero, Nat.one_mul]
  exact w1
set_option maxRecDepth 100000 in
set_option maxHeartbeats 1600000 in
theorem c_rg_powerR {l : Launch} {G : ks_G} {d : Nat} {S : ks_S} {o m a t x T mu ri : Nat} (hF : rgF S o m mu) (hN : rgN m mu ri) (hm0 : m % 4294967296 + 1 < 4294967296) (hA : wA S a (x * 2 ^ 256 % m)) (hT : wA S t T) (ha9 : a < ks_B ∧ (a < o ∨ o + 7 < a)) (ht9 : t < ks_B ∧ (t < o ∨ o + 7 < t)) : ks_P l G yX15_power mX15_power (d + 2) [.ref o, .ref a, .int (nI 1), .int (nI 2), .ref t] S (fun z S' => z = none ∧ ks_up S S' [o + 5, o + 6, o + 7, t] ∧ rgF S' o m mu ∧ wA S' t (x ^ ((m + 1) / 2 ^ 2) * 2 ^ 256 % m)) := by
  have ho9 := hF.1.2.2.2
  have m1 := hN.2.2
  have hro := hF.1.1
  obtain ⟨gm, egm, bgm, dgm⟩ := id hF.1.2.1
  obtain ⟨V6, hV6⟩ := hF.2.2.2.2.1
  obtain ⟨V7, hV7⟩ := hF.2.2.2.2.2
  have gm0 : m % 4294967296 = gm 0 := by
    have := dg_dig (B := 4294967296) (by decide) (f := gm) (n := 8) (j := 0) bgm (by decide)
    rw [Nat.pow_zero, Nat.div_one, dgm] at this
    exact this
  rw [gm0] at hm0
  have q0 := bgm 0 (by decide)
  have hE : ∃ ge : Nat → Nat, (∀ j, j < 8 → ge j < 4294967296) ∧ dg 4294967296 ge 8 = (m + 1) ∧ ge 0 = gm 0 + 1 ∧ ∀ j, 0 < j → ge j = gm j := by
    refine ⟨va_up gm 0 (gm 0 + 1), fun j hj => ?_, ?_, va_up_self _ _ _, fun j hj => va_up_ne _ _ (by omega)⟩
    · by_cases e : j = 0
      · subst e; rw [va_up_self]; omega
      · rw [va_up_ne _ _ e]; exact bgm j hj
    · have h := dg_up (B := 4294967296) (f := gm) (n := 8) (j := 0) (c := gm 0 + 1) (by decide)
      rw [Nat.pow_zero, Nat.mul_one, Nat.mul_one, dgm] at h
      omega
  obtain ⟨ge, bge, dge, ge0, gej⟩ := hE
  have rpos : 0 < m := by omega
  have loop : ∀ (u : Nat) (S1 : ks_S), u ≤ 256 → 2 ≤ u → ks_up S S1 [o + 5, o + 6, o + 7] → rgF S1 o m mu → wA S1 (o + 6) (x * 2 ^ 256 % m) → wA S1 (o + 7) (x ^ ((m + 1) / 2 ^ u) * 2 ^ 256 % m) → ks_X l G mX15_power (d + 2) 24 [(0, .ref o), (1, .ref a), (2, .int (nI 1)), (3, .int (nI 2)), (4, .ref t), (5, .int (nI u - 1))] [] S1 (fun z S' => z = none ∧ ks_up S S' [o + 5, o + 6, o + 7, t] ∧ rgF S' o m mu ∧ wA S' t (x ^ ((m + 1) / 2 ^ 2) * 2 ^ 256 % m)) := by
    intro u
    induction u with
    | zero =>
      intro S1 h256 hsh hu F1 h6 h7
      omega
    | succ u ih =>
      intro S1 h256 hsh hu F1 h6 h7
      rw [nI_D (by omega : 0 < u + 1), Nat.add_sub_cancel]
      by_cases cu : u + 1 = 2
      · obtain rfl : u = 1 := by omega
        refine ks_iload dX15_power_24 rfl rfl ?_
        refine ks_iload_n dX15_power_26 rfl rfl ?_
        refine ks_icmp_ltN (tgt := 112) (by decide) (by decide) dX15_power_27 (by decide) rfl (fun _ => ?_) (fun h => absurd h (by decide))
        have hT1 := hT.up hu (by simp only [List.mem_cons, List.not_mem_nil, or_false]; omega)
        have r1 := F1.1.1
        refine ks_aload_n dX15_power_112 rfl rfl ?_
        refine ks_getf (T := TX15) (kf := 7) kx_1887 rfl in_X15 cl_X15 (by decide) r1 rfl dX15_power_113 rfl ?_
        refine ks_aload dX15_power_116 rfl rfl ?_
        refine ks_callS (n := 2) (M' := mX15_copy) (c_rg_copy (d := d + 1) h7 hT1 ht9.1) kx_1875 kx_1876 kx_33 kx_1877 (by decide +kernel) rfl (by decide) (Nat.le_of_ble_eq_true rfl) rfl dX15_power_118 rfl (fun z9 T9 y9 => ?_)
        obtain ⟨rfl, u9, w9⟩ := y9
        refine ks_ret rfl dX15_power_121 ?_
        refine ⟨rfl, (hu.mono ?_).trans (u9.mono ?_), F1.up u9 (fun x hx => by rw [List.mem_singleton] at hx; omega), w9⟩
        · intro x hx; simp only [List.mem_cons, List.not_mem_nil, or_false] at hx ⊢; omega
        · intro x hx; simp only [List.mem_cons, List.not_mem_nil, or_false] at hx ⊢; omega
      · have r1 := F1.1.1
        refine ks_iload dX15_power_24 rfl rfl ?_
        refine ks_iload_n dX15_power_26 rfl rfl ?_
        refine ks_icmp_ltN (tgt := 112) (by omega) (by decide) dX15_power_27 (by decide) rfl (fun h1 => absurd h1 (by omega)) (fun h1 => ?_)
        refine ks_aload_n dX15_power_30 rfl rfl ?_
        refine ks_aload_n dX15_power_31 rfl rfl ?_
        refine ks_getf (T := TX15) (kf := 7) kx_1887 rfl in_X15 cl_X15 (by decide) r1 rfl dX15_power_32 rfl ?_
        refine ks_aload_n dX15_power_35 rfl rfl ?_
        refine ks_getf (T := TX15) (kf := 7) kx_1887 rfl in_X15 cl_X15 (by decide) r1 rfl dX15_power_36 rfl ?_
        refine ks_aload_n dX15_power_39 rfl rfl ?_
        refine ks_getf (T := TX15) (kf := 7) kx_1887 rfl in_X15 cl_X15 (by decide) r1 rfl dX15_power_40 rfl ?_
        refine ks_callV (n := 3) (M' := mX15_multiply) (c_rg_mul (d := d) F1.1 h7 h7 h7 (by omega) (by omega) (by omega) ⟨by omega, by omega⟩ (by omega) (by omega) (Nat.mod_lt _ rpos) hN.1 hN.2.1) r1 cl_X15 rfl kx_1921 kx_1922 kx_1923 kx_33 kx_1924 (by decide +kernel) rfl (by decide) (Nat.le_of_ble_eq_true rfl) rfl dX15_power_43 rfl (fun z2 T2 y2 => ?_)
        obtain ⟨rfl, u2, row2, w2⟩ := y2
        rw [mont_mul hN.2.1] at w2
        have hu2 : ks_up S T2 [o + 5, o + 6, o + 7] := hu.trans (u2.mono (by intro x hx; simp only [List.mem_cons, List.not_mem_nil, or_false] at hx ⊢; omega))
        have n2 : ∀ k, k ≤ 6 → k ≠ 5 → o + k ∉ [o + 5, o + 7] := fun k h1 h2 h3 => by simp only [List.mem_cons, List.not_mem_nil, or_false] at h3; omega
        have F2 : rgF T2 o m mu := by
          obtain ⟨⟨a1, a2, -, a4⟩, b2, b3, b4, ⟨V, b5⟩, -⟩ := F1
          exact ⟨⟨u2.at a1 (n2 0 (by decide) (by decide)), a2.up u2 (n2 1 (by decide) (by decide)), row2, a4⟩, b2.up u2 (n2 2 (by decide) (by decide)), b3.up u2 (n2 3 (by decide) (by decide)), b4.up u2 (n2 4 (by decide) (by decide)), ⟨V, b5.up u2 (n2 6 (by decide) (by decide))⟩, ⟨_, w2⟩⟩
        have h62 := h6.up u2 (n2 6 (by decide) (by decide))
        have r2 := F2.1.1
        have eg2 := hu2.at egm (by simp only [List.mem_cons, List.not_mem_nil, or_false]; omega)
        have ehalf := at_half (m + 1) u
        have ebit : (m + 1) / 2 ^ u % 2 = ge (u / 32) / 2 ^ (u % 32) % 2 := by rw [← dge]; exact dg_bit bge (by omega)
        have u32 : u % 32 < 32 := Nat.mod_lt _ (by decide)
        have ud : u / 32 < 8 := by omega
        have k74 : ks_X l G mX15_power (d + 2) 74 [(0, .ref o), (1, .ref a), (2, .int (nI 1)), (3, .int (nI 2)), (4, .ref t), (5, .int (nI u))] [.int (nI (ge (u / 32)))] T2 (fun z S' => z = none ∧ ks_up S S' [o + 5, o + 6, o + 7, t] ∧ rgF S' o m mu ∧ wA S' t (x ^ ((m + 1) / 2 ^ 2) * 2 ^ 256 % m)) := by
          refine ks_istore dX15_power_74 (by decide) rfl ?_
          refine ks_sub [(6, _), (0, _), (1, _), (2, _), (3, _), (4, _), (5, _)] rfl ?_
          refine ks_iload dX15_power_76 rfl rfl ?_
          refine ks_iload dX15_power_78 rfl rfl ?_
          refine ks_bipush (x := nI 32) dX15_power_80 (by decide) rfl ?_
          refine ks_remN (by omega) (by decide) (by decide) dX15_power_82 rfl ?_
          refine ks_ishr dX15_power_83 rfl ?_
          refine ks_iconst (x := nI 1) dX15_power_84 (by decide) rfl ?_
          refine ks_iand dX15_power_85 rfl ?_
          refine ks_ti (y := nI (ge (u / 32) / 2 ^ (u % 32) % 2)) (ishr_bit u32) ?_
          rw [← ebit]
          have b2 : (m + 1) / 2 ^ u % 2 < 2 := Nat.mod_lt _ (by decide)
          refine ks_iconst (x := nI 1) dX15_power_86 (by decide) rfl ?_
          refine ks_icmp_neN (tgt := 106) (by omega) (by decide) dX15_power_87 (by decide) rfl (fun h3 => ?_) (fun h3 => ?_)
          · refine ks_incD dX15_power_106 rfl (by decide) (by decide) rfl ?_
            refine ks_sub [(5, _), (0, _), (1, _), (2, _), (3, _), (4, _), (6, _)] rfl ?_
            refine ks_goto (tgt := 24) dX15_power_109 (by decide) ?_
            refine ks_sub [(0, _), (1, _), (2, _), (3, _), (4, _), (5, _)] rfl (ih T2 (by omega) (by omega) hu2 F2 h62 ?_)
            have e0 : (m + 1) / 2 ^ u = (m + 1) / 2 ^ (u + 1) + (m + 1) / 2 ^ (u + 1) := by omega
            rw [e0, Nat.pow_add]
            exact w2
          · refine ks_aload_n dX15_power_90 rfl rfl ?_
            refine ks_aload_n dX15_power_91 rfl rfl ?_
            refine ks_getf (T := TX15) (kf := 7) kx_1887 rfl in_X15 cl_X15 (by decide) r2 rfl dX15_power_92 rfl ?_
            refine ks_aload_n dX15_power_95 rfl rfl ?_
            refine ks_getf (T := TX15) (kf := 6) kx_1886 rfl in_X15 cl_X15 (by decide) r2 rfl dX15_power_96 rfl ?_
            refine ks_aload_n dX15_power_99 rfl rfl ?_
            refine ks_getf (T := TX15) (kf := 7) kx_1887 rfl in_X15 cl_X15 (by decide) r2 rfl dX15_power_100 rfl ?_
            refine ks_callV (n := 3) (M' := mX15_multiply) (c_rg_mul (d := d) F2.1 w2 h62 w2 (by omega) (by omega) (by omega) ⟨by omega, by omega⟩ (by omega) (by omega) (Nat.mod_lt _ rpos) hN.1 hN.2.1) r2 cl_X15 rfl kx_1921 kx_1922 kx_1923 kx_33 kx_1924 (by decide +kernel) rfl (by decide) (Nat.le_of_ble_eq_true rfl) rfl dX15_power_103 rfl (fun z4 T4 y4 => ?_)
            obtain ⟨rfl, u4, row4, w4⟩ := y4
            rw [mont_mul hN.2.1] at w4
            have hu4 : ks_up S T4 [o + 5, o + 6, o + 7] := hu2.trans (u4.mono (by intro x hx; simp only [List.mem_cons, List.not_mem_nil, or_false] at hx ⊢; omega))
            have F4 : rgF T4 o m mu := by
              obtain ⟨⟨a1, a2, -, a4⟩, b2, b3, b4, ⟨V, b5⟩, -⟩ := F2
              exact ⟨⟨u4.at a1 (n2 0 (by decide) (by decide)), a2.up u4 (n2 1 (by decide) (by decide)), row4, a4⟩, b2.up u4 (n2 2 (by decide) (by decide)), b3.up u4 (n2 3 (by decide) (by decide)), b4.up u4 (n2 4 (by decide) (by decide)), ⟨V, b5.up u4 (n2 6 (by decide) (by decide))⟩, ⟨_, w4⟩⟩
            have h64 := h62.up u4 (n2 6 (by decide) (by decide))
            refine ks_incD dX15_power_106 rfl (by decide) (by decide) rfl ?_
            refine ks_sub [(5, _), (0, _), (1, _), (2, _), (3, _), (4, _), (6, _)] rfl ?_
            refine ks_goto (tgt := 24) dX15_power_109 (by decide) ?_
            refine ks_sub [(0, _), (1, _), (2, _), (3, _), (4, _), (5, _)] rfl (ih T4 (by omega) (by omega) hu4 F4 h64 ?_)
            have e0 : (m + 1) / 2 ^ u = (m + 1) / 2 ^ (u + 1) + (m + 1) / 2 ^ (u + 1) + 1 := by omega
            rw [e0, Nat.pow_succ, Nat.pow_add]
            exact w4
        refine ks_iload dX15_power_46 rfl rfl ?_
        refine ks_bipush (x := nI 32) dX15_power_48 (by decide) rfl ?_
        refine ks_icmp_geN (tgt := 64) (by omega) (by decide) dX15_power_50 (by decide) rfl (fun h2 => ?_) (fun h2 => ?_)
        · have u1 := gej (u / 32) (by omega)
          rw [u1] at k74
          refine ks_aload_n dX15_power_64 rfl rfl ?_
          refine ks_getf (T := TX15) (kf := 0) kx_1878 rfl in_X15 cl_X15 (by decide) r2 rfl dX15_power_65 rfl ?_
          refine ks_iload dX15_power_68 rfl rfl ?_
          refine ks_bipush (x := nI 32) dX15_power_70 (by decide) rfl ?_
          refine ks_divN (by omega) (by decide) (by decide) dX15_power_72 rfl ?_
          refine ks_ialdN (i := u / 32) eg2 rfl (by omega) (by decide) dX15_power_73 rfl ?_
          exact ks_sub [(0, _), (1, _), (2, _), (3, _), (4, _), (5, _)] rfl k74
        · have u0 : u / 32 = 0 := by omega
          rw [u0, ge0] at k74
          refine ks_aload_n dX15_power_53 rfl rfl ?_
          refine ks_getf (T := TX15) (kf := 0) kx_1878 rfl in_X15 cl_X15 (by decide) r2 rfl dX15_power_54 rfl ?_
          refine ks_iconst (x := nI 0) dX15_power_57 (by decide) rfl ?_
          refine ks_ialdN (i := 0) eg2 rfl (by decide) (by decide) dX15_power_58 rfl ?_
          refine ks_iload_n dX15_power_59 rfl rfl ?_
          refine ks_iadd dX15_power_60 rfl ?_
          refine ks_ti (y := nI (gm 0 + 1)) (nI_add _ _) ?_
          refine ks_goto (tgt := 74) dX15_power_61 (by decide) ?_
          exact ks_sub [(0, _), (1, _), (2, _), (3, _), (4, _), (5, _)] rfl k74
  refine ks_of (by decide) rfl rfl (Nat.le_of_ble_eq_true rfl) ?_
  show ks_X l G mX15_power (d + 2) 0 [(0, .ref o), (1, .ref a), (2, .int (nI 1)), (3, .int (nI 2)), (4, .ref t)] [] S _
  refine ks_aload_n dX15_power_0 rfl rfl ?_
  refine ks_aload_n dX15_power_1 rfl rfl ?_
  refine ks_getf (T := TX15) (kf := 6) kx_1886 rfl in_X15 cl_X15 (by decide) hro rfl dX15_power_2 rfl ?_
  refine ks_callS (n := 2) (M' := mX15_copy) (c_rg_copy (d := d + 1) hA hV6 (by omega)) kx_1875 kx_1876 kx_33 kx_1877 (by decide +kernel) rfl (by decide) (Nat.le_of_ble_eq_true rfl) rfl dX15_power_5 rfl (fun z0 T0 y0 => ?_)
  obtain ⟨rfl, u0, w0⟩ := y0
  have r0 := u0.at hro (by rw [List.mem_singleton]; omega)
  have o2 := hF.2.1.up u0 (by rw [List.mem_singleton]; omega)
  have v7 := hV7.up u0 (by rw [List.mem_singleton]; omega)
  refine ks_aload_n dX15_power_8 rfl rfl ?_
  refine ks_getf (T := TX15) (kf := 2) kx_1881 rfl in_X15 cl_X15 (by decide) r0 rfl dX15_power_9 rfl ?_
  refine ks_aload_n dX15_power_12 rfl rfl ?_
  refine ks_getf (T := TX15) (kf := 7) kx_1887 rfl in_X15 cl_X15 (by decide) r0 rfl dX15_power_13 rfl ?_
  refine ks_callS (n := 2) (M' := mX15_copy) (c_rg_copy (d := d + 1) o2 v7 (by omega)) kx_1875 kx_1876 kx_33 kx_1877 (by decide +kernel) rfl (by decide) (Nat.le_of_ble_eq_true rfl) rfl dX15_power_16 rfl (fun z1 T1 y1 => ?_)
  obtain ⟨rfl, u1, w1⟩ := y1
  have hu1 : ks_up S T1 [o + 5, o + 6, o + 7] := (u0.mono (by intro x hx; simp only [List.mem_cons, List.not_mem_nil, or_false] at hx ⊢; omega)).trans (u1.mono (by intro x hx; simp only [List.mem_cons, List.not_mem_nil, or_false] at hx ⊢; omega))
  have uX : ks_up S T1 [o + 6, o + 7] := (u0.mono (by intro x hx; simp only [List.mem_cons, List.not_mem_nil, or_false] at hx ⊢; omega)).trans (u1.mono (by intro x hx; simp only [List.mem_cons, List.not_mem_nil, or_false] at hx ⊢; omega))
  have nX : ∀ k, k ≤ 5 → o + k ∉ [o + 6, o + 7] := fun k h1 h3 => by simp only [List.mem_cons, List.not_mem_nil, or_false] at h3; omega
  have w01 := w0.up u1 (by rw [List.mem_singleton]; omega)
  have F1 : rgF T1 o m mu := by
    obtain ⟨a, b2, b3, b4, -, -⟩ := hF
    exact ⟨a.up uX (nX 0 (by decide)) (nX 1 (by decide)) (nX 5 (by decide)), b2.up uX (nX 2 (by decide)), b3.up uX (nX 3 (by decide)), b4.up uX (nX 4 (by decide)), ⟨_, w01⟩, ⟨_, w1⟩⟩
  refine ks_sipush (x := nI 255) dX15_power_19 (by decide) rfl ?_
  refine ks_ti (y := nI 256 - 1) (by decide) ?_
  refine ks_istore dX15_power_22 (by decide) rfl ?_
  refine ks_sub [(5, _), (0, _), (1, _), (2, _), (3, _), (4, _)] rfl ?_
  have m256 := hF.1.2.1.lt
  refine ks_sub [(0, _), (1, _), (2, _), (3, _), (4, _), (5, _)] rfl (loop 256 T1 (Nat.le_refl _) (by decide) hu1 F1 w01 ?_)
  rw [Nat.div_eq_of_lt (by have : (m + 1) < 2 ^ 256 := by rw [← dge]; exact dg_lt bge
                           exact this), Nat.pow_zero, Nat.one_mul]
  exact w1
