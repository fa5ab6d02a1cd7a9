/-! THE REFERENCE: the work of a target -/
theorem nI_not {x : Nat} (hx : x < 4294967296) : nI x ^^^ (-1) = nI (4294967295 - x) := by
  apply Int32.toBitVec_inj.mp
  apply BitVec.eq_of_toNat_eq
  have h1 : (nI x ^^^ (-1)).toBitVec = ~~~ (BitVec.ofNat 32 x) := by
    show BitVec.ofNat 32 x ^^^ BitVec.allOnes 32 = _
    exact BitVec.xor_allOnes
  rw [h1, BitVec.toNat_not, BitVec.toNat_ofNat]
  show _ = (BitVec.ofNat 32 (4294967295 - x)).toNat
  rw [BitVec.toNat_ofNat]
  omega
theorem not_bitN {n x k : Nat} (hx : x < 2 ^ n) (hk : k < n) : (2 ^ n - (x + 1)) / 2 ^ k % 2 = 1 - x / 2 ^ k % 2 := by
  have h := Nat.testBit_two_pow_sub_succ hx k
  rw [Nat.testBit_eq_decide_div_mod_eq, Nat.testBit_eq_decide_div_mod_eq, decide_eq_true hk, Bool.true_and] at h
  rcases Nat.mod_two_eq_zero_or_one (x / 2 ^ k) with h1 | h1 <;> rcases Nat.mod_two_eq_zero_or_one ((2 ^ n - (x + 1)) / 2 ^ k) with h2 | h2 <;> rw [h1, h2] at h ⊢ <;> simp at h
theorem ishr_nbit {x k : Nat} (hx : x < 4294967296) (hk : k < 32) : ((nI x ^^^ (-1)) >>> (nI k &&& 31)) &&& nI 1 = nI (1 - x / 2 ^ k % 2) := by
  rw [nI_not hx, ishr_bit hk, show 4294967295 - x = 2 ^ 32 - (x + 1) by omega, not_bitN (by omega) hk]
/-- one step of the long division -/
theorem wkv_step {C D k : Nat} (hD : 0 < D) : C / 2 ^ k = 2 * (C / 2 ^ (k + 1)) + C / 2 ^ k % 2 ∧ (2 * (C / 2 ^ (k + 1) % D) + C / 2 ^ k % 2 < D → C / 2 ^ k % D = 2 * (C / 2 ^ (k + 1) % D) + C / 2 ^ k % 2 ∧ C / 2 ^ k / D = 2 * (C / 2 ^ (k + 1) / D)) ∧ (D ≤ 2 * (C / 2 ^ (k + 1) % D) + C / 2 ^ k % 2 → C / 2 ^ k % D = 2 * (C / 2 ^ (k + 1) % D) + C / 2 ^ k % 2 - D ∧ C / 2 ^ k / D = 2 * (C / 2 ^ (k + 1) / D) + 1) := by
  have e1 : C / 2 ^ (k + 1) = C / 2 ^ k / 2 := by rw [Nat.pow_succ, Nat.div_div_eq_div_mul]
  rw [e1]
  generalize C / 2 ^ k = X
  have e2 : X = 2 * (X / 2) + X % 2 := by omega
  have e3 := Nat.div_add_mod (X / 2) D
  have lt := Nat.mod_lt (X / 2) hD
  generalize X / 2 = Y at e2 e3 lt ⊢
  generalize hq : Y / D = q at e3 ⊢
  generalize Y % D = r at e3 lt ⊢
  have b1 : X % 2 < 2 := Nat.mod_lt _ (by decide)
  generalize X % 2 = c at e2 b1 ⊢
  refine ⟨e2, fun h => ?_, fun h => ?_⟩
  · have e4 : X = D * (2 * q) + (2 * r + c) := by rw [Nat.mul_left_comm]; omega
    rw [e4, Nat.mul_add_mod, Nat.mod_eq_of_lt h, Nat.mul_add_div hD, Nat.div_eq_of_lt h]
    exact ⟨rfl, by omega⟩
  · have e4 : X = D * (2 * q + 1) + (2 * r + c - D) := by rw [Nat.mul_add, Nat.mul_left_comm]; omega
    have h9 : 2 * r + c - D < D := by omega
    rw [e4, Nat.mul_add_mod, Nat.mod_eq_of_lt h9, Nat.mul_add_div hD, Nat.div_eq_of_lt h9]
    exact ⟨rfl, by omega⟩
/-- a bit set below the bits that are there -/
theorem wkv_bit {g : Nat → Nat} {Q k : Nat} (hg : ∀ j, j < 8 → g j < 4294967296) (hk : k < 256) (h : dg 4294967296 g 8 = 2 * Q * 2 ^ k) (hQ : (2 * Q + 1) * 2 ^ k < 2 ^ 256) : nI (g (k / 32)) ||| nI (1 * 2 ^ (k % 32)) = nI (g (k / 32) + 2 ^ (k % 32)) ∧ (∀ j, j < 8 → va_up g (k / 32) (g (k / 32) + 2 ^ (k % 32)) j < 4294967296) ∧ dg 4294967296 (va_up g (k / 32) (g (k / 32) + 2 ^ (k % 32))) 8 = (2 * Q + 1) * 2 ^ k := by
  have h8 : k / 32 < 8 := by omega
  have hp : (2 : Nat) ^ k = 2 ^ (k % 32) * 4294967296 ^ (k / 32) := by
    rw [show (4294967296 : Nat) = 2 ^ 32 from rfl, ← Nat.pow_mul, ← Nat.pow_add]; congr 1; omega
  have k32 : k % 32 < 32 := Nat.mod_lt _ (by decide)
  have hw : g (k / 32) = 2 * Q * 2 ^ (k % 32) % 4294967296 := by
    rw [← dg_dig (B := 4294967296) (by decide) hg h8, h, hp, ← Nat.mul_assoc, Nat.mul_div_cancel _ (Nat.pow_pos (by decide))]
  have hpp : (4294967296 : Nat) = 2 ^ (k % 32 + 1) * 2 ^ (31 - k % 32) := by rw [← Nat.pow_add, show k % 32 + 1 + (31 - k % 32) = 32 by omega]
  have hmul : ∃ b, g (k / 32) = b * 2 ^ (k % 32 + 1) := by
    refine ⟨Q % 2 ^ (31 - k % 32), ?_⟩
    rw [hw, show 2 * Q * 2 ^ (k % 32) = 2 ^ (k % 32 + 1) * Q by rw [Nat.pow_succ]; ac_rfl, hpp, Nat.mul_mod_mul_left, Nat.mul_comm]
  obtain ⟨b, hb⟩ := hmul
  have hlt : 2 ^ (k % 32) < 2 ^ (k % 32 + 1) := by rw [Nat.pow_succ]; have := Nat.pow_pos (n := k % 32) (show 0 < 2 by decide); omega
  have hbd : g (k / 32) + 2 ^ (k % 32) < 4294967296 := by
    have h1 := hg _ h8
    rw [hb] at h1 ⊢
    rw [hpp] at h1 ⊢
    rw [Nat.mul_comm b] at h1 ⊢
    have h2 := Nat.lt_of_mul_lt_mul_left h1
    have h3 := Nat.mul_le_mul_left (2 ^ (k % 32 + 1)) (Nat.succ_le_of_lt h2)
    rw [Nat.mul_succ] at h3
    omega
  refine ⟨?_, fun j hj => ?_, ?_⟩
  · rw [Nat.one_mul, hb, Int32.or_comm, or_low hlt]
  · by_cases e : j = k / 32
    · subst e; rw [va_up_self]; exact hbd
    · rw [va_up_ne _ _ e]; exact hg j hj
  · have h1 := dg_up (B := 4294967296) (f := g) (n := 8) (j := k / 32) (c := g (k / 32) + 2 ^ (k % 32)) h8
    rw [Nat.add_mul, ← hp, h] at h1
    rw [Nat.add_mul, Nat.one_mul]
    omega
/-- the lowest bit of a row -/
theorem wkv_low {g : Nat → Nat} {R c : Nat} (hg : ∀ j, j < 8 → g j < 4294967296) (h : dg 4294967296 g 8 = 2 * R) (hc : c < 2) : nI (g 0) ||| nI c = nI (g 0 + c) ∧ (∀ j, j < 8 → va_up g 0 (g 0 + c) j < 4294967296) ∧ dg 4294967296 (va_up g 0 (g 0 + c)) 8 = 2 * R + c := by
  have hp : g 0 % 2 = 0 := by rw [← dg_par, h]; omega
  have hg0 := hg 0 (by decide)
  refine ⟨?_, fun j hj => ?_, ?_⟩
  · have e := or_low (w := c) (b := g 0 / 2) (s := 1) hc
    rw [show g 0 / 2 * 2 ^ 1 = g 0 by omega] at e
    rw [Int32.or_comm, e]
  · by_cases e : j = 0
    · subst e; rw [va_up_self]; omega
    · rw [va_up_ne _ _ e]; exact hg j hj
  · have h1 := dg_up (B := 4294967296) (f := g) (n := 8) (j := 0) (c := g 0 + c) (by decide)
    omega
set_option maxRecDepth 100000 in
set_option maxHeartbeats 1600000 in
theorem c_md_work {l : Launch} {G : ks_G} {d : Nat} {S : ks_S} {V : Nat → Value} {t to N T a b c : Nat} (hO : S.2.2 290 = some (rfE V)) (hN : wA S t N) (hN1 : 1 ≤ N) (hN2 : N < 2 ^ 255) (hT : wA S to T) (h338 : wA S 338 a) (h339 : wA S 339 b) (h340 : wA S 340 c) (ht : 340 < t ∧ t ≠ to) (hto : 340 < to) (toB : to < ks_B) : ks_P l G yX16_work mX16_work (d + 1) [.ref 290, .ref t, .ref to] S (fun z S' => z = none ∧ ks_up S S' [338, 339, 340, to] ∧ wA S' to (2 ^ 256 / (N + 1)) ∧ (∃ x, wA S' 338 x) ∧ (∃ x, wA S' 339 x) ∧ ∃ x, wA S' 340 x) := by
  obtain ⟨gt, egt, bgt, dgt⟩ := id hN
  obtain ⟨C, eC⟩ : ∃ C, C = 2 ^ 256 - (N + 1) := ⟨_, rfl⟩
  obtain ⟨D, eD⟩ : ∃ D, D = N + 1 := ⟨_, rfl⟩
  have hD : 0 < D := by omega
  have tn : t ∉ [338, 339, 340, to] := by simp only [List.mem_cons, List.not_mem_nil, or_false, not_or]; omega
  have on : 290 ∉ [338, 339, 340, to] := by simp only [List.mem_cons, List.not_mem_nil, or_false, not_or]; omega
  have loop : ∀ (k : Nat) (S1 : ks_S), k ≤ 256 → ks_up S S1 [338, 339, 340, to] → wA S1 338 D → wA S1 339 1 → wA S1 340 (C / 2 ^ k % D) → wA S1 to (C / 2 ^ k / D * 2 ^ k) → ks_X l G mX16_work (d + 1) 60 [(0, .ref 290), (1, .ref t), (2, .ref to), (3, .ref 338), (4, .int (nI k - 1))] [] S1 (fun z S' => z = none ∧ ks_up S S' [338, 339, 340, to] ∧ wA S' to (2 ^ 256 / (N + 1)) ∧ (∃ x, wA S' 338 x) ∧ (∃ x, wA S' 339 x) ∧ ∃ x, wA S' 340 x) := by
    intro k
    induction k with
    | zero =>
      intro S1 hk hu w1 w2 w3 w4
      have o1 := hu.at hO on
      refine ks_iload dX16_work_60 rfl rfl ?_
      refine ks_if_ltD (tgt := 172) (by omega) dX16_work_62 (by decide) rfl (fun _ => ?_) (fun h => absurd rfl h)
      refine ks_aload_n dX16_work_172 rfl rfl ?_
      refine ks_aload_n dX16_work_173 rfl rfl ?_
      refine ks_getf (T := TX16) (kf := 44) kx_2412 rfl in_X16 cl_X16 (by decide) o1 rfl dX16_work_174 rfl ?_
      refine ks_aload_n dX16_work_177 rfl rfl ?_
      refine ks_callS (n := 3) (M' := mX15_plus) (c_rg_plus (d := d) w4 w2 w4 toB) kx_2116 kx_1866 kx_33 kx_1867 (by decide +kernel) rfl (by decide) (Nat.le_of_ble_eq_true rfl) rfl dX16_work_178 rfl (fun z2 T2 y2 => ?_)
      obtain ⟨rfl, u2, v2⟩ := y2
      refine ks_pop2_2 dX16_work_181 rfl rfl ?_
      refine ks_ret rfl dX16_work_182 ?_
      have e9 : (C / 2 ^ 0 / D * 2 ^ 0 + 1) % 2 ^ 256 = 2 ^ 256 / (N + 1) := by
        have e1 : 2 ^ 256 = C + D := by omega
        have e2 : (2 ^ 256) / (N + 1) = C / D + 1 := by rw [← eD, e1, Nat.add_div_right _ hD]
        have e3 : (2 ^ 256) / (N + 1) < 2 ^ 256 := Nat.div_lt_self (by decide) (by omega)
        rw [e2] at e3 ⊢
        rw [Nat.pow_zero, Nat.div_one, Nat.mul_one, Nat.mod_eq_of_lt e3]
      rw [e9] at v2
      have un : ∀ x, 337 < x → x < 341 → x ∉ [to] := fun x h1 h2 => by simp only [List.mem_singleton]; omega
      exact ⟨rfl, hu.trans (u2.mono (fun x hx => by simp only [List.mem_singleton] at hx; simp [hx])), v2, ⟨_, w1.up u2 (un 338 (by decide) (by decide))⟩, ⟨_, w2.up u2 (un 339 (by decide) (by decide))⟩, _, w3.up u2 (un 340 (by decide) (by decide))⟩
    | succ k ih =>
      intro S1 hk hu w1 w2 w3 w4
      rw [nI_D (by omega : 0 < k + 1), Nat.add_sub_cancel]
      have o1 := hu.at hO on
      obtain ⟨s1, s2, s3⟩ := wkv_step (C := C) (D := D) (k := k) hD
      have rD := Nat.mod_lt (C / 2 ^ (k + 1)) hD
      have ec0 : C / 2 ^ k % 2 = 1 - gt (k / 32) / 2 ^ (k % 32) % 2 := by rw [eC, not_bitN (by omega) (by omega), ← dg_bit bgt (by omega), dgt]
      have cl : C / 2 ^ k % 2 < 2 := Nat.mod_lt _ (by decide)
      obtain ⟨c, ec⟩ : ∃ c, c = C / 2 ^ k % 2 := ⟨_, rfl⟩
      rw [← ec] at s1 s2 s3 cl ec0
      obtain ⟨R, eR⟩ : ∃ R, R = C / 2 ^ (k + 1) % D := ⟨_, rfl⟩
      rw [← eR] at s2 s3 rD w3
      obtain ⟨g3, e3, b3, d3⟩ := id w3
      have b7 : g3 7 / 2 ^ 31 = 0 := by
        have h1 : dg 4294967296 g3 8 = dg 4294967296 g3 7 + g3 7 * 4294967296 ^ 7 := dg_s _ _ _
        have h2 : R < 2 ^ 255 := by omega
        have h3 : (4294967296 : Nat) ^ 7 = 2 ^ 224 := by decide
        omega
      have b7' := b3 7 (by decide)
      refine ks_iload dX16_work_60 rfl rfl ?_
      refine ks_if_ltN (tgt := 172) (by omega) dX16_work_62 (by decide) rfl ?_
      refine ks_aload_n dX16_work_65 rfl rfl ?_
      refine ks_getf (T := TX16) (kf := 45) kx_2413 rfl in_X16 cl_X16 (by decide) o1 rfl dX16_work_66 rfl ?_
      refine ks_bipush (x := nI 7) dX16_work_69 (by decide) rfl ?_
      refine ks_ialdN (i := 7) e3 rfl (by decide) (by decide) dX16_work_71 rfl ?_
      refine ks_bipush (x := nI 31) dX16_work_72 (by decide) rfl ?_
      refine ks_ushrN (k := 31) (by decide) (by omega) dX16_work_74 rfl ?_
      rw [b7]
      refine ks_istore dX16_work_75 (by decide) rfl ?_
      refine ks_sub [(5, _), (0, _), (1, _), (2, _), (3, _), (4, _)] rfl ?_
      refine ks_aload_n dX16_work_77 rfl rfl ?_
      refine ks_getf (T := TX16) (kf := 45) kx_2413 rfl in_X16 cl_X16 (by decide) o1 rfl dX16_work_78 rfl ?_
      refine ks_aload_n dX16_work_81 rfl rfl ?_
      refine ks_getf (T := TX16) (kf := 45) kx_2413 rfl in_X16 cl_X16 (by decide) o1 rfl dX16_work_82 rfl ?_
      refine ks_aload_n dX16_work_85 rfl rfl ?_
      refine ks_getf (T := TX16) (kf := 45) kx_2413 rfl in_X16 cl_X16 (by decide) o1 rfl dX16_work_86 rfl ?_
      refine ks_callS (n := 3) (M' := mX15_plus) (c_rg_plus (d := d) w3 w3 w3 (by decide)) kx_2116 kx_1866 kx_33 kx_1867 (by decide +kernel) rfl (by decide) (Nat.le_of_ble_eq_true rfl) rfl dX16_work_89 rfl (fun z2 T2 y2 => ?_)
      obtain ⟨rfl, u2, v2⟩ := y2
      rw [show (R + R) % 2 ^ 256 = 2 * R by omega] at v2
      obtain ⟨g5, e5, b5, d5⟩ := v2
      obtain ⟨l1, l2, l3⟩ := wkv_low b5 d5 cl
      have hu2 : ks_up S T2 [338, 339, 340, to] := hu.trans (u2.mono (fun x hx => by simp only [List.mem_singleton] at hx; simp [hx]))
      have o2 := hu2.at hO on
      have et2 := hu2.at egt tn
      have k32 : k % 32 < 32 := Nat.mod_lt _ (by decide)
      refine ks_pop2_2 dX16_work_92 rfl rfl ?_
      refine ks_aload_n dX16_work_93 rfl rfl ?_
      refine ks_getf (T := TX16) (kf := 45) kx_2413 rfl in_X16 cl_X16 (by decide) o2 rfl dX16_work_94 rfl ?_
      refine ks_iconst (x := nI 0) dX16_work_97 (by decide) rfl ?_
      refine ks_dup2_11 dX16_work_98 rfl rfl rfl ?_
      refine ks_ialdN (i := 0) e5 rfl (by decide) (by decide) dX16_work_99 rfl ?_
      refine ks_aload_n dX16_work_100 rfl rfl ?_
      refine ks_iload dX16_work_101 rfl rfl ?_
      refine ks_bipush (x := nI 32) dX16_work_103 (by decide) rfl ?_
      refine ks_divN (by omega) (by decide) (by decide) dX16_work_105 rfl ?_
      refine ks_ialdN (i := k / 32) et2 rfl (by omega) (by decide) dX16_work_106 rfl ?_
      refine ks_iconst (x := (-1)) dX16_work_107 (by decide) rfl ?_
      refine ks_ixor dX16_work_108 rfl ?_
      refine ks_iload dX16_work_109 rfl rfl ?_
      refine ks_bipush (x := nI 32) dX16_work_111 (by decide) rfl ?_
      refine ks_remN (by omega) (by decide) (by decide) dX16_work_113 rfl ?_
      refine ks_ishr dX16_work_114 rfl ?_
      refine ks_iconst (x := nI 1) dX16_work_115 (by decide) rfl ?_
      refine ks_iand dX16_work_116 rfl ?_
      refine ks_ti (y := nI c) ((ishr_nbit (bgt _ (by omega)) k32).trans (congrArg nI ec0.symm)) ?_
      refine ks_ior dX16_work_117 rfl ?_
      refine ks_ti (y := nI (g5 0 + c)) l1 ?_
      refine ks_iastNN (i := 0) (v := g5 0 + c) (by decide) e5 (by decide) (by decide) dX16_work_118 rfl ?_
      refine ks_iload dX16_work_119 rfl rfl ?_
      refine ks_iconst (x := nI 1) dX16_work_121 (by decide) rfl ?_
      refine ks_icmp_eqN (tgt := 136) (by decide) (by decide) dX16_work_122 (by decide) rfl (fun h => absurd h (by decide)) (fun _ => ?_)
      have v5 : wA (ks_set T2 340 (kN 8 (va_up g5 0 (g5 0 + c)))) 340 (2 * R + c) := ⟨_, ks_set_same _ _ _, l2, l3⟩
      have u5 : ks_up T2 (ks_set T2 340 (kN 8 (va_up g5 0 (g5 0 + c)))) [340] := ks_up_set _ _ (List.mem_singleton.mpr rfl)
      have n34 : ∀ x, x ≠ 340 → x ∉ [340] := fun x h => by simp only [List.mem_singleton]; exact h
      have a1 := (w1.up u2 (n34 338 (by decide))).up u5 (n34 338 (by decide))
      have a2 := (w2.up u2 (n34 339 (by decide))).up u5 (n34 339 (by decide))
      have a4 := (w4.up u2 (n34 to (by omega))).up u5 (n34 to (by omega))
      have hu5 := hu2.trans (u5.mono (L' := [338, 339, 340, to]) (fun x hx => by simp only [List.mem_singleton] at hx; simp [hx]))
      have o5 := hu5.at hO on
      generalize ks_set T2 340 (kN 8 (va_up g5 0 (g5 0 + c))) = T5 at v5 u5 a1 a2 a4 hu5 o5 ⊢
      refine ks_aload_n dX16_work_125 rfl rfl ?_
      refine ks_getf (T := TX16) (kf := 45) kx_2413 rfl in_X16 cl_X16 (by decide) o5 rfl dX16_work_126 rfl ?_
      refine ks_aload_n dX16_work_129 rfl rfl ?_
      refine ks_callS (n := 2) (M' := mX15_compare) (c_rg_compare (d := d) v5 a1 (by decide) (by decide)) kx_2035 kx_1870 kx_33 kx_1871 (by decide +kernel) rfl (by decide) (Nat.le_of_ble_eq_true rfl) rfl dX16_work_130 rfl (fun z6 T6 y6 => ?_)
      obtain ⟨rfl, hT6⟩ := y6
      obtain rfl := hT6.symm
      refine ks_if_lt (tgt := 166) dX16_work_133 (by decide) rfl (fun h6 => ?_) (fun h6 => ?_)
      · have h7 := cmpN_lt.mp h6
        obtain ⟨t1, t2⟩ := s2 h7
        refine ks_incD dX16_work_166 rfl (by decide) (by decide) rfl ?_
        refine ks_sub [(4, _), (0, _), (1, _), (2, _), (3, _), (5, _)] rfl ?_
        refine ks_goto (tgt := 60) dX16_work_169 (by decide) ?_
        refine ks_sub [(0, _), (1, _), (2, _), (3, _), (4, _)] rfl (ih _ (by omega) hu5 a1 a2 (by rw [t1]; exact v5) ?_)
        have e9 : C / 2 ^ k / D * 2 ^ k = C / 2 ^ (k + 1) / D * 2 ^ (k + 1) := by rw [t2, Nat.pow_succ]; ac_rfl
        rw [e9]; exact a4
      · have h7 := mt cmpN_lt.mpr h6
        obtain ⟨t1, t2⟩ := s3 (by omega)
        refine ks_aload_n dX16_work_136 rfl rfl ?_
        refine ks_getf (T := TX16) (kf := 45) kx_2413 rfl in_X16 cl_X16 (by decide) o5 rfl dX16_work_137 rfl ?_
        refine ks_aload_n dX16_work_140 rfl rfl ?_
        refine ks_aload_n dX16_work_141 rfl rfl ?_
        refine ks_getf (T := TX16) (kf := 45) kx_2413 rfl in_X16 cl_X16 (by decide) o5 rfl dX16_work_142 rfl ?_
        refine ks_callS (n := 3) (M' := mX15_less) (c_rg_less (d := d) v5 a1 v5 (by decide)) kx_2117 kx_1873 kx_33 kx_1874 (by decide +kernel) rfl (by decide) (Nat.le_of_ble_eq_true rfl) rfl dX16_work_145 rfl (fun z7 T7 y7 => ?_)
        obtain ⟨rfl, u7, v7⟩ := y7
        have e7 : (2 * R + c + 2 ^ 256 - D) % 2 ^ 256 = C / 2 ^ k % D := by rw [t1]; omega
        rw [e7] at v7
        have a1' := a1.up u7 (n34 338 (by decide))
        have a2' := a2.up u7 (n34 339 (by decide))
        have a4' := a4.up u7 (n34 to (by omega))
        have hu7 := hu5.trans (u7.mono (L' := [338, 339, 340, to]) (fun x hx => by simp only [List.mem_singleton] at hx; simp [hx]))
        obtain ⟨g8, e8, b8, d8⟩ := a4'
        have hq : (2 * (C / 2 ^ (k + 1) / D) + 1) * 2 ^ k < 2 ^ 256 := by
          rw [← t2]
          exact Nat.lt_of_le_of_lt (Nat.mul_le_mul_right _ (Nat.div_le_self _ _)) (Nat.lt_of_le_of_lt (Nat.div_mul_le_self _ _) (by omega))
        obtain ⟨q1, q2, q3⟩ := wkv_bit b8 (by omega) (show dg 4294967296 g8 8 = 2 * (C / 2 ^ (k + 1) / D) * 2 ^ k by rw [d8, Nat.pow_succ]; ac_rfl) hq
        have hsh : 1 * 2 ^ (k % 32) < 2 ^ 32 := by rw [Nat.one_mul]; exact Nat.pow_lt_pow_right (by decide) k32
        refine ks_pop2_2 dX16_work_148 rfl rfl ?_
        refine ks_aload_n dX16_work_149 rfl rfl ?_
        refine ks_iload dX16_work_150 rfl rfl ?_
        refine ks_bipush (x := nI 32) dX16_work_152 (by decide) rfl ?_
        refine ks_divN (by omega) (by decide) (by decide) dX16_work_154 rfl ?_
        refine ks_dup2_11 dX16_work_155 rfl rfl rfl ?_
        refine ks_ialdN (i := k / 32) e8 rfl (by omega) (by decide) dX16_work_156 rfl ?_
        refine ks_iconst (x := nI 1) dX16_work_157 (by decide) rfl ?_
        refine ks_iload dX16_work_158 rfl rfl ?_
        refine ks_bipush (x := nI 32) dX16_work_160 (by decide) rfl ?_
        refine ks_remN (by omega) (by decide) (by decide) dX16_work_162 rfl ?_
        refine ks_shlN (k := k % 32) (s_l _ (by omega)) hsh dX16_work_163 rfl ?_
        refine ks_ior dX16_work_164 rfl ?_
        refine ks_ti (y := nI (g8 (k / 32) + 2 ^ (k % 32))) q1 ?_
        refine ks_iastNN (i := k / 32) (v := g8 (k / 32) + 2 ^ (k % 32)) toB e8 (by omega) (by decide) dX16_work_165 rfl ?_
        refine ks_incD dX16_work_166 rfl (by decide) (by decide) rfl ?_
        refine ks_sub [(4, _), (0, _), (1, _), (2, _), (3, _), (5, _)] rfl ?_
        refine ks_goto (tgt := 60) dX16_work_169 (by decide) ?_
        have u8 : ∀ e, ks_up T7 (ks_set T7 to e) [to] := fun e => ks_up_set _ _ (List.mem_singleton.mpr rfl)
        have nto : ∀ x, x < 341 → x ∉ [to] := fun x h => by simp only [List.mem_singleton]; omega
        exact ks_sub [(0, _), (1, _), (2, _), (3, _), (4, _)] rfl (ih _ (by omega) (hu7.trans ((u8 _).mono (fun x hx => by simp only [List.mem_singleton] at hx; simp [hx]))) (a1'.up (u8 _) (nto _ (by decide))) (a2'.up (u8 _) (nto _ (by decide))) (v7.up (u8 _) (nto _ (by decide))) ⟨_, ks_set_same _ _ _, q2, by rw [t2]; exact q3⟩)
  have first : ∀ (u i : Nat) (S1 : ks_S) (f1 f2 f3 : Nat → Nat), i + u = 8 → ks_up S S1 [339, 340, to] → S1.2.2 339 = some (kN 8 f1) → S1.2.2 340 = some (kN 8 f2) → S1.2.2 to = some (kN 8 f3) → (∀ j, j < i → f1 j = if j = 0 then 1 else 0) → (∀ j, j < i → f2 j = 0) → (∀ j, j < i → f3 j = 0) → ks_X l G mX16_work (d + 1) 2 [(0, .ref 290), (1, .ref t), (2, .ref to), (3, .int (nI i))] [] S1 (fun z S' => z = none ∧ ks_up S S' [338, 339, 340, to] ∧ wA S' to (2 ^ 256 / (N + 1)) ∧ (∃ x, wA S' 338 x) ∧ (∃ x, wA S' 339 x) ∧ ∃ x, wA S' 340 x) := by
    intro u
    induction u with
    | zero =>
      intro i S1 f1 f2 f3 hi hu e1 e2 e3 p1 p2 p3
      obtain rfl : i = 8 := hi
      have hu' := hu.mono (L' := [338, 339, 340, to]) (fun x hx => by simp only [List.mem_cons, List.not_mem_nil, or_false] at hx ⊢; omega)
      have o1 := hu'.at hO on
      have w0 : wA S1 t N := hN.up hu' tn
      have w1 : wA S1 339 1 := ⟨f1, e1, fun j hj => by rw [p1 j hj]; split <;> decide, (dg_congr p1).trans (by decide)⟩
      have w2 : wA S1 340 0 := wA_0 e2 p2
      have w3 : wA S1 to 0 := wA_0 e3 p3
      have w4 := h338.up hu (by simp only [List.mem_cons, List.not_mem_nil, or_false, not_or]; omega)
      refine ks_iload_n dX16_work_2 rfl rfl ?_
      refine ks_bipush (x := nI 8) dX16_work_3 (by decide) rfl ?_
      refine ks_icmp_geN (tgt := 40) (by decide) (by decide) dX16_work_5 (by decide) rfl (fun _ => ?_) (fun h => absurd h (by decide))
      refine ks_aload_n dX16_work_40 rfl rfl ?_
      refine ks_getf (T := TX16) (kf := 43) kx_2411 rfl in_X16 cl_X16 (by decide) o1 rfl dX16_work_41 rfl ?_
      refine ks_astore_n dX16_work_44 (by decide) rfl ?_
      refine ks_sub [(3, _), (0, _), (1, _), (2, _)] rfl ?_
      refine ks_aload_n dX16_work_45 rfl rfl ?_
      refine ks_aload_n dX16_work_46 rfl rfl ?_
      refine ks_getf (T := TX16) (kf := 44) kx_2412 rfl in_X16 cl_X16 (by decide) o1 rfl dX16_work_47 rfl ?_
      refine ks_aload_n dX16_work_50 rfl rfl ?_
      refine ks_callS (n := 3) (M' := mX15_plus) (c_rg_plus (d := d) w0 w1 w4 (by decide)) kx_2116 kx_1866 kx_33 kx_1867 (by decide +kernel) rfl (by decide) (Nat.le_of_ble_eq_true rfl) rfl dX16_work_51 rfl (fun z2 T2 y2 => ?_)
      obtain ⟨rfl, u2, v2⟩ := y2
      rw [show (N + 1) % 2 ^ 256 = D by omega] at v2
      have n33 : ∀ x, 338 < x → x ∉ [338] := fun x h => by simp only [List.mem_singleton]; omega
      refine ks_pop2_2 dX16_work_54 rfl rfl ?_
      refine ks_sipush (x := nI 255) dX16_work_55 (by decide) rfl ?_
      refine ks_istore dX16_work_58 (by decide) rfl ?_
      refine ks_sub [(4, _), (0, _), (1, _), (2, _), (3, _)] rfl ?_
      have z0 : C / 2 ^ 256 = 0 := Nat.div_eq_of_lt (by omega)
      refine ks_sub [(0, _), (1, _), (2, _), (3, _), (4, .int (nI 256 - 1))] rfl (loop 256 T2 (by decide) (hu'.trans (u2.mono (fun x hx => by simp only [List.mem_singleton] at hx; simp [hx]))) v2 (w1.up u2 (n33 _ (by decide))) ?_ ?_)
      · rw [z0, Nat.zero_mod]; exact w2.up u2 (n33 _ (by decide))
      · rw [z0, Nat.zero_div, Nat.zero_mul]; exact w3.up u2 (n33 _ (by omega))
    | succ u ih =>
      intro i S1 f1 f2 f3 hi hu e1 e2 e3 p1 p2 p3
      have o1 := hu.at hO (by simp only [List.mem_cons, List.not_mem_nil, or_false, not_or]; omega)
      refine ks_iload_n dX16_work_2 rfl rfl ?_
      refine ks_bipush (x := nI 8) dX16_work_3 (by decide) rfl ?_
      refine ks_icmp_geN (tgt := 40) (by omega) (by decide) dX16_work_5 (by decide) rfl (fun h1 => absurd h1 (by omega)) (fun h1 => ?_)
      refine ks_aload_n dX16_work_8 rfl rfl ?_
      refine ks_getf (T := TX16) (kf := 44) kx_2412 rfl in_X16 cl_X16 (by decide) o1 rfl dX16_work_9 rfl ?_
      refine ks_iload_n dX16_work_12 rfl rfl ?_
      refine ks_iload_n dX16_work_13 rfl rfl ?_
      refine ks_if_neN (tgt := 21) (by omega) dX16_work_14 (by decide) rfl (fun h2 => ?_) (fun h2 => ?_)
      · refine ks_iconst (x := nI 0) dX16_work_21 (by decide) rfl ?_
        refine ks_iastNN (i := i) (v := 0) (by decide) e1 (by omega) (by decide) dX16_work_22 rfl ?_
        refine ks_aload_n dX16_work_23 rfl rfl ?_
        refine ks_getf (T := TX16) (kf := 45) kx_2413 rfl in_X16 cl_X16 (by decide) ((ks_set_ne _ _ (by decide)).trans o1) rfl dX16_work_24 rfl ?_
        refine ks_iload_n dX16_work_27 rfl rfl ?_
        refine ks_iconst (x := nI 0) dX16_work_28 (by decide) rfl ?_
        refine ks_iastNN (i := i) (v := 0) (by decide) ((ks_set_ne _ _ (by decide)).trans e2) (by omega) (by decide) dX16_work_29 rfl ?_
        refine ks_aload_n dX16_work_30 rfl rfl ?_
        refine ks_iload_n dX16_work_31 rfl rfl ?_
        refine ks_iconst (x := nI 0) dX16_work_32 (by decide) rfl ?_
        refine ks_iastNN (i := i) (v := 0) toB ((ks_set_ne _ _ (by omega)).trans ((ks_set_ne _ _ (by omega)).trans e3)) (by omega) (by decide) dX16_work_33 rfl ?_
        refine ks_incN (c := 1) (e := i + 1) dX16_work_34 rfl (by decide) rfl (by decide) rfl ?_
        refine ks_sub [(3, _), (0, _), (1, _), (2, _)] rfl ?_
        refine ks_goto (tgt := 2) dX16_work_37 (by decide) ?_
        have va : ∀ {f : Nat → Nat} {p : Nat → Nat} {v : Nat}, (∀ j, j < i → f j = p j) → v = p i → ∀ j, j < i + 1 → va_up f i v j = p j := fun {f p v} h hv j hj => by
          by_cases e : j = i
          · subst e; rw [va_up_self]; exact hv
          · rw [va_up_ne _ _ e]; exact h j (by omega)
        refine ks_sub [(0, _), (1, _), (2, _), (3, _)] rfl (ih (i + 1) _ (va_up f1 i 0) (va_up f2 i 0) (va_up f3 i 0) (by omega) (hu.trans (((ks_up_set (L := [339, 340, to]) _ _ (by simp)).trans (ks_up_set _ _ (by simp))).trans (ks_up_set _ _ (by simp)))) ((ks_set_ne _ _ (by omega)).trans ((ks_set_ne _ _ (by decide)).trans (ks_set_same _ _ _))) ((ks_set_ne _ _ (by omega)).trans (ks_set_same _ _ _)) (ks_set_same _ _ _) (va p1 (by simp only [h2, if_true, if_false, if_pos])) (va (p := fun _ => 0) p2 rfl) (va (p := fun _ => 0) p3 rfl))
      · refine ks_iconst (x := nI 1) dX16_work_17 (by decide) rfl ?_
        refine ks_goto (tgt := 22) dX16_work_18 (by decide) ?_
        refine ks_iastNN (i := i) (v := 1) (by decide) e1 (by omega) (by decide) dX16_work_22 rfl ?_
        refine ks_aload_n dX16_work_23 rfl rfl ?_
        refine ks_getf (T := TX16) (kf := 45) kx_2413 rfl in_X16 cl_X16 (by decide) ((ks_set_ne _ _ (by decide)).trans o1) rfl dX16_work_24 rfl ?_
        refine ks_iload_n dX16_work_27 rfl rfl ?_
        refine ks_iconst (x := nI 0) dX16_work_28 (by decide) rfl ?_
        refine ks_iastNN (i := i) (v := 0) (by decide) ((ks_set_ne _ _ (by decide)).trans e2) (by omega) (by decide) dX16_work_29 rfl ?_
        refine ks_aload_n dX16_work_30 rfl rfl ?_
        refine ks_iload_n dX16_work_31 rfl rfl ?_
        refine ks_iconst (x := nI 0) dX16_work_32 (by decide) rfl ?_
        refine ks_iastNN (i := i) (v := 0) toB ((ks_set_ne _ _ (by omega)).trans ((ks_set_ne _ _ (by omega)).trans e3)) (by omega) (by decide) dX16_work_33 rfl ?_
        refine ks_incN (c := 1) (e := i + 1) dX16_work_34 rfl (by decide) rfl (by decide) rfl ?_
        refine ks_sub [(3, _), (0, _), (1, _), (2, _)] rfl ?_
        refine ks_goto (tgt := 2) dX16_work_37 (by decide) ?_
        have va : ∀ {f : Nat → Nat} {p : Nat → Nat} {v : Nat}, (∀ j, j < i → f j = p j) → v = p i → ∀ j, j < i + 1 → va_up f i v j = p j := fun {f p v} h hv j hj => by
          by_cases e : j = i
          · subst e; rw [va_up_self]; exact hv
          · rw [va_up_ne _ _ e]; exact h j (by omega)
        refine ks_sub [(0, _), (1, _), (2, _), (3, _)] rfl (ih (i + 1) _ (va_up f1 i 1) (va_up f2 i 0) (va_up f3 i 0) (by omega) (hu.trans (((ks_up_set (L := [339, 340, to]) _ _ (by simp)).trans (ks_up_set _ _ (by simp))).trans (ks_up_set _ _ (by simp)))) ((ks_set_ne _ _ (by omega)).trans ((ks_set_ne _ _ (by decide)).trans (ks_set_same _ _ _))) ((ks_set_ne _ _ (by omega)).trans (ks_set_same _ _ _)) (ks_set_same _ _ _) (va p1 (by simp only [h2, if_true, if_false, if_pos])) (va (p := fun _ => 0) p2 rfl) (va (p := fun _ => 0) p3 rfl))
  obtain ⟨f1, e1, -, -⟩ := h339
  obtain ⟨f2, e2, -, -⟩ := h340
  obtain ⟨f3, e3, -, -⟩ := hT
  refine ks_of (by decide) rfl rfl (Nat.le_of_ble_eq_true rfl) ?_
  show ks_X l G mX16_work (d + 1) 0 [(0, .ref 290), (1, .ref t), (2, .ref to)] [] S _
  refine ks_iconst (x := nI 0) dX16_work_0 (by decide) rfl ?_
  refine ks_istore_n dX16_work_1 (by decide) rfl ?_
  refine ks_sub [(3, _), (0, _), (1, _), (2, _)] rfl ?_
  exact ks_sub [(0, _), (1, _), (2, _), (3, _)] rfl (first 8 0 S f1 f2 f3 rfl (ks_up.rf _ _) e1 e2 e3 (fun j h => absurd h (Nat.not_lt_zero _)) (fun j h => absurd h (Nat.not_lt_zero _)) (fun j h => absurd h (Nat.not_lt_zero _)))
