/-! FIELD: dividing -/
def dvR (n : Nat) (R : Nat → Nat) (a b c e : Nat) : Nat → Nat := fun q => if q = n + 1 then a else if q = n + 2 then b else if q = n + 3 then c else if q = n + 4 then e else R q
theorem dvR_r (n : Nat) (R : Nat → Nat) (a b c e : Nat) : dvR n R a b c e (n + 1) = a ∧ dvR n R a b c e (n + 2) = b ∧ dvR n R a b c e (n + 3) = c ∧ dvR n R a b c e (n + 4) = e ∧ ∀ q, q ≤ n → dvR n R a b c e q = R q := by
  unfold dvR
  refine ⟨if_pos rfl, ?_, ?_, ?_, fun q hq => ?_⟩
  · rw [if_neg (by omega), if_pos rfl]
  · rw [if_neg (by omega), if_neg (by omega), if_pos rfl]
  · rw [if_neg (by omega), if_neg (by omega), if_neg (by omega), if_pos rfl]
  · rw [if_neg (by omega), if_neg (by omega), if_neg (by omega), if_neg (by omega)]
theorem dvR_1 (n : Nat) (R : Nat → Nat) (a b c e v : Nat) : va_up (dvR n R a b c e) (n + 1) v = dvR n R v b c e := by
  funext q
  by_cases h : q = n + 1
  · rw [h, va_up_self]; exact ((dvR_r n R v b c e).1).symm
  · rw [va_up_ne _ _ h]; unfold dvR; rw [if_neg h, if_neg h]
theorem dvR_2 (n : Nat) (R : Nat → Nat) (a b c e v : Nat) : va_up (dvR n R a b c e) (n + 2) v = dvR n R a v c e := by
  funext q
  by_cases h : q = n + 2
  · rw [h, va_up_self]; exact ((dvR_r n R a v c e).2.1).symm
  · rw [va_up_ne _ _ h]; unfold dvR; rw [if_neg h, if_neg h]
theorem dvR_3 (n : Nat) (R : Nat → Nat) (a b c e v : Nat) : va_up (dvR n R a b c e) (n + 3) v = dvR n R a b v e := by
  funext q
  by_cases h : q = n + 3
  · rw [h, va_up_self]; exact ((dvR_r n R a b v e).2.2.1).symm
  · rw [va_up_ne _ _ h]; unfold dvR; rw [if_neg h, if_neg h]
theorem dvR_4 (n : Nat) (R : Nat → Nat) (a b c e v : Nat) : va_up (dvR n R a b c e) (n + 4) v = dvR n R a b c v := by
  funext q
  by_cases h : q = n + 4
  · rw [h, va_up_self]; exact ((dvR_r n R a b c v).2.2.2.1).symm
  · rw [va_up_ne _ _ h]; unfold dvR; rw [if_neg h, if_neg h]
theorem dvR_i (n : Nat) (R : Nat → Nat) : dvR n R (R (n + 1)) (R (n + 2)) (R (n + 3)) (R (n + 4)) = R := by
  funext q
  unfold dvR
  by_cases h1 : q = n + 1
  · rw [if_pos h1, h1]
  · rw [if_neg h1]
    by_cases h2 : q = n + 2
    · rw [if_pos h2, h2]
    · rw [if_neg h2]
      by_cases h3 : q = n + 3
      · rw [if_pos h3, h3]
      · rw [if_neg h3]
        by_cases h4 : q = n + 4
        · rw [if_pos h4, h4]
        · rw [if_neg h4]
/-- how far a division has to go -/
def dvM (b e : Nat) : Nat := b * e * ((b + e) * (b + e))
def dvG (k b e : Nat) : Prop := (b % 2 = 0 → dvM (b / 2) e * 2 < 2 ^ k) ∧ (b % 2 = 1 → e ≤ b → dvM ((b - e) / 2) e * 4 < 2 ^ k) ∧ (b % 2 = 1 → b < e → dvM ((e - b) / 2) b * 8 < 2 ^ k)
theorem dvM_mono {b b2 e s s2 : Nat} (h1 : b ≤ b2) (h2 : s ≤ s2) : b * e * (s * s) ≤ b2 * e * (s2 * s2) := Nat.mul_le_mul (Nat.mul_le_mul_right e h1) (Nat.mul_le_mul h2 h2)
theorem dvG_of {k b e : Nat} (he : e % 2 = 1) (h : dvM b e < 2 ^ k) : dvG k b e := by
  refine ⟨fun hb => ?_, fun hb hbe => ?_, fun hb hbe => ?_⟩
  · refine Nat.lt_of_le_of_lt ?_ h
    obtain ⟨c, rfl⟩ : ∃ c, b = 2 * c := ⟨b / 2, by omega⟩
    rw [Nat.mul_div_cancel_left _ (by decide)]
    unfold dvM
    have h1 : c * e * ((c + e) * (c + e)) ≤ c * e * ((2 * c + e) * (2 * c + e)) := dvM_mono (Nat.le_refl c) (by omega)
    have h2 : 2 * c * e * ((2 * c + e) * (2 * c + e)) = 2 * (c * e * ((2 * c + e) * (2 * c + e))) := by rw [Nat.mul_assoc 2, Nat.mul_assoc 2]
    omega
  · refine Nat.lt_of_le_of_lt ?_ h
    obtain ⟨c, rfl⟩ : ∃ c, b = e + 2 * c := ⟨(b - e) / 2, by omega⟩
    rw [show (e + 2 * c - e) / 2 = c by omega]
    unfold dvM
    have e1 : (e + 2 * c + e) = 2 * (c + e) := by omega
    have h2 : (e + 2 * c) * e * ((e + 2 * c + e) * (e + 2 * c + e)) = ((e + 2 * c) * 4) * e * ((c + e) * (c + e)) := by rw [e1]; grind
    rw [h2]
    have h3 : c * e * ((c + e) * (c + e)) * 4 = (c * 4) * e * ((c + e) * (c + e)) := by grind
    rw [h3]
    exact dvM_mono (by omega) (Nat.le_refl _)
  · refine Nat.lt_of_le_of_lt ?_ h
    obtain ⟨c, rfl⟩ : ∃ c, e = b + 2 * c := ⟨(e - b) / 2, by omega⟩
    rw [show (b + 2 * c - b) / 2 = c by omega]
    unfold dvM
    have e1 : (b + (b + 2 * c)) = 2 * (c + b) := by omega
    have h2 : b * (b + 2 * c) * ((b + (b + 2 * c)) * (b + (b + 2 * c))) = ((b + 2 * c) * 4) * b * ((c + b) * (c + b)) := by rw [e1]; grind
    rw [h2]
    have h3 : c * b * ((c + b) * (c + b)) * 8 = (c * 8) * b * ((c + b) * (c + b)) := by grind
    rw [h3]
    exact dvM_mono (by omega) (Nat.le_refl _)
theorem dvM_0 {b e : Nat} (he : 0 < e) (h : dvM b e = 0) : b = 0 := by
  unfold dvM at h
  rcases Nat.mul_eq_zero.mp h with h | h
  · rcases Nat.mul_eq_zero.mp h with h | h
    · exact h
    · omega
  · rcases Nat.mul_eq_zero.mp h with h | h <;> omega
/-- what stands between the numbers of a division -/
def dvI (p X Y a b c e : Nat) : Prop := a < p ∧ c < p ∧ b ≤ p ∧ e ≤ p ∧ e % 2 = 1 ∧ (∃ k : Int, (a : Int) * Y - X * b = k * p) ∧ (∃ k : Int, (c : Int) * Y - X * e = k * p) ∧ Nat.gcd b e = Nat.gcd Y p
theorem dv_two {p : Nat} (hp : p % 2 = 1) {t k : Int} (h : 2 * t = k * p) : ∃ j : Int, t = j * p := by
  refine ⟨t - k * ((p : Int) / 2), ?_⟩
  have h1 : (p : Int) = 2 * ((p : Int) / 2) + 1 := by omega
  generalize (p : Int) / 2 = m at *
  have h2 : (t - k * m) * (p : Int) = t * p - m * (k * p) := by grind
  rw [h2, ← h]
  conv => rhs; rw [h1]
  grind
theorem gcd_even {b e : Nat} (he : e % 2 = 1) (hb : b % 2 = 0) : Nat.gcd (b / 2) e = Nat.gcd b e := by
  have h2 : Nat.Coprime 2 e := by
    unfold Nat.Coprime
    have h3 : Nat.gcd 2 e ∣ 2 := Nat.gcd_dvd_left 2 e
    have h4 : Nat.gcd 2 e ∣ e := Nat.gcd_dvd_right 2 e
    have h5 : Nat.gcd 2 e ≤ 2 := Nat.le_of_dvd (by decide) h3
    have h6 : 0 < Nat.gcd 2 e := Nat.gcd_pos_of_pos_left e (by decide)
    rcases (show Nat.gcd 2 e = 1 ∨ Nat.gcd 2 e = 2 by omega) with h | h
    · exact h
    · rw [h] at h4; omega
  have e1 : b = 2 * (b / 2) := by omega
  conv => rhs; rw [e1]
  exact (h2.gcd_mul_left_cancel (b / 2)).symm
theorem dvI_half {p X Y a b c e : Nat} (hp : p % 2 = 1) (h : dvI p X Y a b c e) (hb : b % 2 = 0) : dvI p X Y ((if a % 2 = 1 then a + p else a) / 2) (b / 2) c e := by
  obtain ⟨h1, h2, h3, h4, h5, ⟨k, h6⟩, h7, h8⟩ := h
  refine ⟨by split <;> omega, h2, by omega, h4, h5, ?_, h7, (gcd_even h5 hb).trans h8⟩
  have eb : (b : Int) = 2 * ((b / 2 : Nat) : Int) := by omega
  split
  · next ho =>
    have ea : 2 * (((a + p) / 2 : Nat) : Int) = a + p := by omega
    refine dv_two hp (k := k + Y) ?_
    rw [Int.mul_sub, ← Int.mul_assoc, ea, ← Int.mul_assoc, Int.mul_comm 2 (X : Int), Int.mul_assoc, ← eb]
    grind
  · next ho =>
    have ea : 2 * ((a / 2 : Nat) : Int) = a := by omega
    refine dv_two hp (k := k) ?_
    rw [Int.mul_sub, ← Int.mul_assoc, ea, ← Int.mul_assoc, Int.mul_comm 2 (X : Int), Int.mul_assoc, ← eb]
    exact h6
theorem dvI_swap {p X Y a b c e : Nat} (h : dvI p X Y a b c e) (hb : b % 2 = 1) : dvI p X Y c e a b := by
  obtain ⟨h1, h2, h3, h4, h5, h6, h7, h8⟩ := h
  exact ⟨h2, h1, h4, h3, hb, h7, h6, (Nat.gcd_comm e b).trans h8⟩
theorem dvI_sub {p X Y a b c e : Nat} (h : dvI p X Y a b c e) (hbe : e ≤ b) : dvI p X Y (if c ≤ a then a - c else a + p - c) (b - e) c e := by
  obtain ⟨h1, h2, h3, h4, h5, ⟨k, h6⟩, ⟨j, h7⟩, h8⟩ := h
  refine ⟨by split <;> omega, h2, by omega, h4, h5, ?_, ⟨j, h7⟩, ?_⟩
  · have eb : ((b - e : Nat) : Int) = b - e := by omega
    rw [eb]
    split
    · refine ⟨k - j, ?_⟩
      have ea : ((a - c : Nat) : Int) = a - c := by omega
      rw [ea]
      grind
    · refine ⟨k - j + Y, ?_⟩
      have ea : ((a + p - c : Nat) : Int) = a + p - c := by omega
      rw [ea]
      grind
  · rw [← h8]
    have e1 : b = (b - e) + e := by omega
    conv => rhs; rw [e1]
    rw [Nat.gcd_comm (b - e + e) e, Nat.gcd_add_self_right, Nat.gcd_comm]
/-- what a division answers -/
def dvP (p X Y v : Nat) : Prop := v < p ∧ (Y = 0 → v = 0) ∧ (Nat.gcd Y p = 1 → v * Y % p = X % p)
theorem dvI_end {p X Y a c e : Nat} (hY : Y ≠ 0 ∨ c = 0) (h : dvI p X Y a 0 c e) : dvP p X Y c := by
  obtain ⟨h1, h2, h3, h4, h5, h6, ⟨j, h7⟩, h8⟩ := h
  refine ⟨h2, fun h => ?_, fun hg => ?_⟩
  · rcases hY with h9 | h9
    · exact absurd h h9
    · exact h9
  · rw [Nat.gcd_zero_left, hg] at h8
    subst h8
    have e2 : ((c * Y : Nat) : Int) = X + j * p := by
      rw [Int.natCast_mul]
      have : ((1 : Nat) : Int) = 1 := rfl
      rw [this, Int.mul_one] at h7
      omega
    have e3 : ((c * Y : Nat) : Int) % p = (X : Int) % p := by rw [e2, Int.add_mul_emod_self_right]
    have e4 := congrArg Int.toNat e3
    rw [← Int.natCast_emod, ← Int.natCast_emod] at e4
    exact e4
set_option maxRecDepth 100000 in
set_option maxHeartbeats 2000000 in
theorem l_dvStep {l : Launch} {G : ks_G} {d X Y : Nat} {S : ks_S} {n fo fc o x y st a b c e : Nat} {R : Nat → Nat} {P : Option Value → ks_S → Prop} (hF : fdX S fo fc n (dvR n R a b c e)) (hp : R n < 2 ^ 256) (hI : dvI (R n) X Y a b c e) (hst : st < 1100) (hb0 : b ≠ 0) (k1 : b % 2 = 0 → ∀ S2 : ks_S, ks_up S S2 [fc] → fdX S2 fo fc n (dvR n R ((if a % 2 = 1 then a + R n else a) / 2) (b / 2) c e) → ks_X l G mX5_divide (d + 3) 45 [(0, .ref fo), (1, .int (nI (9 * o))), (2, .int (nI (9 * x))), (3, .int (nI (9 * y))), (4, .int (nI (st + 1)))] [] S2 P) (k2 : b % 2 = 1 → b < e → ∀ S2 : ks_S, ks_up S S2 [fc] → fdX S2 fo fc n (dvR n R c e a b) → ks_X l G mX5_divide (d + 3) 45 [(0, .ref fo), (1, .int (nI (9 * o))), (2, .int (nI (9 * x))), (3, .int (nI (9 * y))), (4, .int (nI (st + 1)))] [] S2 P) (k3 : b % 2 = 1 → e ≤ b → ∀ S2 : ks_S, ks_up S S2 [fc] → fdX S2 fo fc n (dvR n R (if c ≤ a then a - c else a + R n - c) (b - e) c e) → ks_X l G mX5_divide (d + 3) 45 [(0, .ref fo), (1, .int (nI (9 * o))), (2, .int (nI (9 * x))), (3, .int (nI (9 * y))), (4, .int (nI (st + 1)))] [] S2 P) : ks_X l G mX5_divide (d + 3) 45 [(0, .ref fo), (1, .int (nI (9 * o))), (2, .int (nI (9 * x))), (3, .int (nI (9 * y))), (4, .int (nI st))] [] S P := by
  have hn := hF.2.2.1
  obtain ⟨i1, i2, i3, i4, i5, i6, i7, i8⟩ := id hI
  obtain ⟨r1, r2, r3, r4, r5⟩ := dvR_r n R a b c e
  have rn := r5 n (Nat.le_refl n)
  refine ks_iload dX5_divide_45 rfl rfl ?_
  refine ks_sipush (x := nI 1100) dX5_divide_47 (by decide) rfl ?_
  refine ks_icmp_geN (tgt := 179) (by omega) (by decide) dX5_divide_50 (by decide) rfl (fun g1 => ?_) (fun g1 => ?_)
  · omega
  · refine ks_aload_n dX5_divide_53 rfl rfl ?_
    refine ks_aload_n dX5_divide_54 rfl rfl ?_
    refine ks_getf (T := TX5) (kf := 3) kx_126 rfl in_X5 cl_X5 (by decide) hF.1 rfl dX5_divide_55 rfl ?_
    refine ks_callV (n := 1) (M' := mX5_isZero) (c_fd_isZero (d := d + 2) (x := n + 2) hF (by omega)) hF.1 cl_X5 rfl kx_1196 kx_527 kx_528 kx_5 kx_529 (by decide +kernel) rfl (by decide) (Nat.le_of_ble_eq_true rfl) rfl dX5_divide_58 rfl (fun q0 T0 h0 => ?_)
    obtain ⟨rfl, hS0⟩ := h0
    obtain rfl := hS0.symm
    refine ks_if_neZ (tgt := 179) dX5_divide_61 (by decide) rfl (fun g2 => ?_) (fun g2 => ?_)
    · rw [r2] at g2
      exact absurd (of_decide_eq_true g2) hb0
    · refine ks_aload_n dX5_divide_64 rfl rfl ?_
      refine ks_getf (T := TX5) (kf := 0) kx_121 rfl in_X5 cl_X5 (by decide) hF.1 rfl dX5_divide_65 rfl ?_
      refine ks_aload_n dX5_divide_68 rfl rfl ?_
      refine ks_getf (T := TX5) (kf := 3) kx_126 rfl in_X5 cl_X5 (by decide) hF.1 rfl dX5_divide_69 rfl ?_
      refine ks_laldN (i := 9 * (n + 2)) hF.2.1 rfl (by omega) (by omega) dX5_divide_72 rfl ?_
      rw [lay_0, r2, dL_0]
      refine ks_lconst (x := lN 1) dX5_divide_73 (by decide) rfl ?_
      refine ks_landN (k := 1) (p := 2) (by decide) (by decide) (by decide) (by omega) dX5_divide_74 rfl ?_
      refine ks_tl (y := lN (b % 2)) (congrArg lN (by omega)) ?_
      refine ks_lconst (x := lN 0) dX5_divide_75 (by decide) rfl ?_
      refine ks_lif_neN (tgt := 99) (by omega) (by decide) dX5_divide_76 rfl dX5_divide_77 (by decide) rfl (fun g3 => ?_) (fun g3 => ?_)
      · refine ks_aload_n dX5_divide_99 rfl rfl ?_
        refine ks_aload_n dX5_divide_100 rfl rfl ?_
        refine ks_getf (T := TX5) (kf := 3) kx_126 rfl in_X5 cl_X5 (by decide) hF.1 rfl dX5_divide_101 rfl ?_
        refine ks_aload_n dX5_divide_104 rfl rfl ?_
        refine ks_getf (T := TX5) (kf := 5) kx_128 rfl in_X5 cl_X5 (by decide) hF.1 rfl dX5_divide_105 rfl ?_
        refine ks_callV (n := 2) (M' := mX5_isBelow) (c_fd_isBelow (d := d + 2) (x := n + 2) (y := n + 4) hF (by omega) (by omega)) hF.1 cl_X5 rfl kx_1201 kx_1202 kx_1203 kx_5 kx_1204 (by decide +kernel) rfl (by decide) (Nat.le_of_ble_eq_true rfl) rfl dX5_divide_108 rfl (fun q0 T0 h0 => ?_)
        obtain ⟨rfl, hS0⟩ := h0
        obtain rfl := hS0.symm
        refine ks_if_eqZ (tgt := 141) dX5_divide_111 (by decide) rfl (fun g4 => ?_) (fun g4 => ?_)
        · rw [r2, r4] at g4
          have hge := of_decide_eq_false g4
          refine ks_aload_n dX5_divide_141 rfl rfl ?_
          refine ks_aload_n dX5_divide_142 rfl rfl ?_
          refine ks_getf (T := TX5) (kf := 3) kx_126 rfl in_X5 cl_X5 (by decide) hF.1 rfl dX5_divide_143 rfl ?_
          refine ks_aload_n dX5_divide_146 rfl rfl ?_
          refine ks_getf (T := TX5) (kf := 3) kx_126 rfl in_X5 cl_X5 (by decide) hF.1 rfl dX5_divide_147 rfl ?_
          refine ks_aload_n dX5_divide_150 rfl rfl ?_
          refine ks_getf (T := TX5) (kf := 5) kx_128 rfl in_X5 cl_X5 (by decide) hF.1 rfl dX5_divide_151 rfl ?_
          refine ks_callV (n := 3) (M' := mX5_subtract) (c_fd_subtract (d := d + 2) (o := n + 2) (x := n + 2) (y := n + 4) hF (by omega) (by omega) (by omega) (by omega) (by rw [r2, r4]; omega) (by rw [r2, r4]; omega)) hF.1 cl_X5 rfl kx_1209 kx_519 kx_520 kx_5 kx_521 (by decide +kernel) rfl (by decide) (Nat.le_of_ble_eq_true rfl) rfl dX5_divide_154 rfl (fun q1 T1 h1 => ?_)
          obtain ⟨rfl, u1, f1⟩ := h1
          rw [r2, r4, rn, dvR_2, if_pos (by omega)] at f1
          obtain ⟨s1, s2, s3, s4, s5⟩ := dvR_r n R a (b - e) c e
          have sn := s5 n (Nat.le_refl n)
          refine ks_aload_n dX5_divide_157 rfl rfl ?_
          refine ks_aload_n dX5_divide_158 rfl rfl ?_
          refine ks_getf (T := TX5) (kf := 2) kx_125 rfl in_X5 cl_X5 (by decide) f1.1 rfl dX5_divide_159 rfl ?_
          refine ks_aload_n dX5_divide_162 rfl rfl ?_
          refine ks_getf (T := TX5) (kf := 2) kx_125 rfl in_X5 cl_X5 (by decide) f1.1 rfl dX5_divide_163 rfl ?_
          refine ks_aload_n dX5_divide_166 rfl rfl ?_
          refine ks_getf (T := TX5) (kf := 4) kx_127 rfl in_X5 cl_X5 (by decide) f1.1 rfl dX5_divide_167 rfl ?_
          refine ks_callV (n := 3) (M' := mX5_subtract) (c_fd_subtract (d := d + 2) (o := n + 1) (x := n + 1) (y := n + 3) f1 (by omega) (by omega) (by omega) (by omega) (by rw [s1, s3, sn]; omega) (by rw [s1, s3, sn]; omega)) f1.1 cl_X5 rfl kx_1209 kx_519 kx_520 kx_5 kx_521 (by decide +kernel) rfl (by decide) (Nat.le_of_ble_eq_true rfl) rfl dX5_divide_170 rfl (fun q2 T2 h2 => ?_)
          obtain ⟨rfl, u2, f2⟩ := h2
          rw [s1, s3, sn, dvR_1] at f2
          refine ks_incN (c := 1) (e := st + 1) dX5_divide_173 rfl (by decide) rfl (by decide) rfl ?_
          refine ks_sub [(4, _), (0, _), (1, _), (2, _), (3, _)] rfl ?_
          refine ks_goto (tgt := 45) dX5_divide_176 (by decide) ?_
          exact ks_sub [(0, _), (1, _), (2, _), (3, _), (4, _)] rfl (k3 (by omega) (by omega) _ (u1.trans u2) f2)
        · rw [r2, r4] at g4
          have hlt := of_decide_eq_true g4
          refine ks_aload_n dX5_divide_114 rfl rfl ?_
          refine ks_aload_n dX5_divide_115 rfl rfl ?_
          refine ks_getf (T := TX5) (kf := 3) kx_126 rfl in_X5 cl_X5 (by decide) hF.1 rfl dX5_divide_116 rfl ?_
          refine ks_aload_n dX5_divide_119 rfl rfl ?_
          refine ks_getf (T := TX5) (kf := 5) kx_128 rfl in_X5 cl_X5 (by decide) hF.1 rfl dX5_divide_120 rfl ?_
          refine ks_callV (n := 2) (M' := mX5_swap) (c_fd_swap (d := d + 2) (x := n + 2) (y := n + 4) hF (by omega) (by omega) (by omega)) hF.1 cl_X5 rfl kx_1205 kx_1207 kxp_18 kx_5 kx_1208 (by decide +kernel) rfl (by decide) (Nat.le_of_ble_eq_true rfl) rfl dX5_divide_123 rfl (fun q1 T1 h1 => ?_)
          obtain ⟨rfl, u1, f1⟩ := h1
          rw [r2, r4, dvR_2, dvR_4] at f1
          obtain ⟨s1, s2, s3, s4, s5⟩ := dvR_r n R a e c b
          refine ks_aload_n dX5_divide_126 rfl rfl ?_
          refine ks_aload_n dX5_divide_127 rfl rfl ?_
          refine ks_getf (T := TX5) (kf := 2) kx_125 rfl in_X5 cl_X5 (by decide) f1.1 rfl dX5_divide_128 rfl ?_
          refine ks_aload_n dX5_divide_131 rfl rfl ?_
          refine ks_getf (T := TX5) (kf := 4) kx_127 rfl in_X5 cl_X5 (by decide) f1.1 rfl dX5_divide_132 rfl ?_
          refine ks_callV (n := 2) (M' := mX5_swap) (c_fd_swap (d := d + 2) (x := n + 1) (y := n + 3) f1 (by omega) (by omega) (by omega)) f1.1 cl_X5 rfl kx_1205 kx_1207 kxp_18 kx_5 kx_1208 (by decide +kernel) rfl (by decide) (Nat.le_of_ble_eq_true rfl) rfl dX5_divide_135 rfl (fun q2 T2 h2 => ?_)
          obtain ⟨rfl, u2, f2⟩ := h2
          rw [s1, s3, dvR_1, dvR_3] at f2
          refine ks_goto (tgt := 173) dX5_divide_138 (by decide) ?_
          refine ks_incN (c := 1) (e := st + 1) dX5_divide_173 rfl (by decide) rfl (by decide) rfl ?_
          refine ks_sub [(4, _), (0, _), (1, _), (2, _), (3, _)] rfl ?_
          refine ks_goto (tgt := 45) dX5_divide_176 (by decide) ?_
          exact ks_sub [(0, _), (1, _), (2, _), (3, _), (4, _)] rfl (k2 (by omega) hlt _ (u1.trans u2) f2)
      · refine ks_aload_n dX5_divide_80 rfl rfl ?_
        refine ks_aload_n dX5_divide_81 rfl rfl ?_
        refine ks_getf (T := TX5) (kf := 3) kx_126 rfl in_X5 cl_X5 (by decide) hF.1 rfl dX5_divide_82 rfl ?_
        refine ks_callV (n := 1) (M' := mX5_halve) (c_fd_halve (d := d + 2) (x := n + 2) hF (by omega) (by omega) (by rw [r2, rn]; omega)) hF.1 cl_X5 rfl kx_1197 kx_1199 kxp_17 kx_5 kx_1200 (by decide +kernel) rfl (by decide) (Nat.le_of_ble_eq_true rfl) rfl dX5_divide_85 rfl (fun q1 T1 h1 => ?_)
        obtain ⟨rfl, u1, f1⟩ := h1
        rw [r2, rn, dvR_2, if_neg (by omega)] at f1
        obtain ⟨s1, s2, s3, s4, s5⟩ := dvR_r n R a (b / 2) c e
        have sn := s5 n (Nat.le_refl n)
        refine ks_aload_n dX5_divide_88 rfl rfl ?_
        refine ks_aload_n dX5_divide_89 rfl rfl ?_
        refine ks_getf (T := TX5) (kf := 2) kx_125 rfl in_X5 cl_X5 (by decide) f1.1 rfl dX5_divide_90 rfl ?_
        refine ks_callV (n := 1) (M' := mX5_halve) (c_fd_halve (d := d + 2) (x := n + 1) f1 (by omega) (by omega) (by rw [s1, sn]; omega)) f1.1 cl_X5 rfl kx_1197 kx_1199 kxp_17 kx_5 kx_1200 (by decide +kernel) rfl (by decide) (Nat.le_of_ble_eq_true rfl) rfl dX5_divide_93 rfl (fun q2 T2 h2 => ?_)
        obtain ⟨rfl, u2, f2⟩ := h2
        rw [s1, sn, dvR_1] at f2
        refine ks_goto (tgt := 173) dX5_divide_96 (by decide) ?_
        refine ks_incN (c := 1) (e := st + 1) dX5_divide_173 rfl (by decide) rfl (by decide) rfl ?_
        refine ks_sub [(4, _), (0, _), (1, _), (2, _), (3, _)] rfl ?_
        refine ks_goto (tgt := 45) dX5_divide_176 (by decide) ?_
        exact ks_sub [(0, _), (1, _), (2, _), (3, _), (4, _)] rfl (k1 (by omega) _ (u1.trans u2) f2)
set_option maxRecDepth 100000 in
set_option maxHeartbeats 2000000 in
theorem l_dvEnd {l : Launch} {G : ks_G} {d : Nat} {S S1 : ks_S} {n fo fc o x y st a c e : Nat} {R : Nat → Nat} (hu : ks_up S S1 [fc]) (hF : fdX S1 fo fc n (dvR n R a 0 c e)) (hI : dvI (R n) (R x) (R y) a 0 c e) (hY : R y ≠ 0 ∨ c = 0) (hst : st ≤ 1100) (ho : o < n) : ks_X l G mX5_divide (d + 3) 45 [(0, .ref fo), (1, .int (nI (9 * o))), (2, .int (nI (9 * x))), (3, .int (nI (9 * y))), (4, .int (nI st))] [] S1 (fun z S' => z = none ∧ ks_up S S' [fc] ∧ ∃ R2 v, fdX S' fo fc n R2 ∧ (∀ q, q ≤ n → q ≠ o → R2 q = R q) ∧ R2 o = v ∧ dvP (R n) (R x) (R y) v) := by
  have hn := hF.2.2.1
  obtain ⟨r1, r2, r3, r4, r5⟩ := dvR_r n R a 0 c e
  refine ks_iload dX5_divide_45 rfl rfl ?_
  refine ks_sipush (x := nI 1100) dX5_divide_47 (by decide) rfl ?_
  refine ks_icmp_geN (tgt := 179) (by omega) (by decide) dX5_divide_50 (by decide) rfl (fun g1 => ?_) (fun g1 => ?_)
  · refine ks_sub [(0, _), (1, _), (2, _), (3, _)] rfl ?_
    refine ks_aload_n dX5_divide_179 rfl rfl ?_
    refine ks_iload_n dX5_divide_180 rfl rfl ?_
    refine ks_aload_n dX5_divide_181 rfl rfl ?_
    refine ks_getf (T := TX5) (kf := 4) kx_127 rfl in_X5 cl_X5 (by decide) hF.1 rfl dX5_divide_182 rfl ?_
    refine ks_iconst (x := nI 1) dX5_divide_185 (by decide) rfl ?_
    refine ks_callV (n := 3) (M' := mX5_copy) (c_fd_copy (d := d + 1) (o := o) (x := n + 3) (k := 1) hF (by omega) (by omega)) hF.1 cl_X5 rfl kx_1194 kx_531 kx_532 kx_5 kx_533 (by decide +kernel) rfl (by decide) (Nat.le_of_ble_eq_true rfl) rfl dX5_divide_186 rfl (fun q1 T1 h1 => ?_)
    obtain ⟨rfl, u1, f1⟩ := h1
    rw [cpR_1, r3] at f1
    refine ks_ret rfl dX5_divide_189 ?_
    exact ⟨rfl, hu.trans u1, _, c, f1, fun q hq hqo => by rw [va_up_ne _ _ hqo, r5 q hq], va_up_self _ _ _, dvI_end hY hI⟩
  · refine ks_aload_n dX5_divide_53 rfl rfl ?_
    refine ks_aload_n dX5_divide_54 rfl rfl ?_
    refine ks_getf (T := TX5) (kf := 3) kx_126 rfl in_X5 cl_X5 (by decide) hF.1 rfl dX5_divide_55 rfl ?_
    refine ks_callV (n := 1) (M' := mX5_isZero) (c_fd_isZero (d := d + 2) (x := n + 2) hF (by omega)) hF.1 cl_X5 rfl kx_1196 kx_527 kx_528 kx_5 kx_529 (by decide +kernel) rfl (by decide) (Nat.le_of_ble_eq_true rfl) rfl dX5_divide_58 rfl (fun q0 T0 h0 => ?_)
    obtain ⟨rfl, hS0⟩ := h0
    obtain rfl := hS0.symm
    rw [r2]
    refine ks_if_neZ (tgt := 179) dX5_divide_61 (by decide) rfl (fun g2 => ?_) (fun g2 => ?_)
    · refine ks_sub [(0, _), (1, _), (2, _), (3, _)] rfl ?_
      refine ks_aload_n dX5_divide_179 rfl rfl ?_
      refine ks_iload_n dX5_divide_180 rfl rfl ?_
      refine ks_aload_n dX5_divide_181 rfl rfl ?_
      refine ks_getf (T := TX5) (kf := 4) kx_127 rfl in_X5 cl_X5 (by decide) hF.1 rfl dX5_divide_182 rfl ?_
      refine ks_iconst (x := nI 1) dX5_divide_185 (by decide) rfl ?_
      refine ks_callV (n := 3) (M' := mX5_copy) (c_fd_copy (d := d + 1) (o := o) (x := n + 3) (k := 1) hF (by omega) (by omega)) hF.1 cl_X5 rfl kx_1194 kx_531 kx_532 kx_5 kx_533 (by decide +kernel) rfl (by decide) (Nat.le_of_ble_eq_true rfl) rfl dX5_divide_186 rfl (fun q1 T1 h1 => ?_)
      obtain ⟨rfl, u1, f1⟩ := h1
      rw [cpR_1, r3] at f1
      refine ks_ret rfl dX5_divide_189 ?_
      exact ⟨rfl, hu.trans u1, _, c, f1, fun q hq hqo => by rw [va_up_ne _ _ hqo, r5 q hq], va_up_self _ _ _, dvI_end hY hI⟩
    · exact absurd g2 (by decide)
set_option maxRecDepth 100000 in
set_option maxHeartbeats 2000000 in
theorem l_dvLoop {l : Launch} {G : ks_G} {d : Nat} {S : ks_S} {n fo fc o x y : Nat} {R : Nat → Nat} (hp : R n < 2 ^ 256) (hpo : R n % 2 = 1) (hY : R y ≠ 0) (ho : o < n) : ∀ (k st : Nat) (S1 : ks_S) (a b c e : Nat), st + k + 1 ≤ 1100 → ks_up S S1 [fc] → fdX S1 fo fc n (dvR n R a b c e) → dvI (R n) (R x) (R y) a b c e → dvG k b e → ks_X l G mX5_divide (d + 3) 45 [(0, .ref fo), (1, .int (nI (9 * o))), (2, .int (nI (9 * x))), (3, .int (nI (9 * y))), (4, .int (nI st))] [] S1 (fun z S' => z = none ∧ ks_up S S' [fc] ∧ ∃ R2 v, fdX S' fo fc n R2 ∧ (∀ q, q ≤ n → q ≠ o → R2 q = R q) ∧ R2 o = v ∧ dvP (R n) (R x) (R y) v) := by
  intro k
  induction k with
  | zero =>
    intro st S1 a b c e hst hu hF hI hG
    by_cases hb : b = 0
    · subst hb
      exact l_dvEnd hu hF hI (Or.inl hY) (by omega) ho
    · have he : 0 < e := by have := hI.2.2.2.2.1; omega
      refine l_dvStep hF hp hI (by omega) hb (fun h0 S2 u2 f2 => ?_) (fun h0 hlt S2 u2 f2 => ?_) (fun h0 hge S2 u2 f2 => ?_)
      · have h9 := hG.1 h0
        have := dvM_0 he (show dvM (b / 2) e = 0 by omega)
        omega
      · have h9 := hG.2.2 h0 hlt
        have := dvM_0 (b := (e - b) / 2) (e := b) (by omega) (by omega)
        have := hI.2.2.2.2.1
        omega
      · have h9 := hG.2.1 h0 hge
        have := dvM_0 (b := (b - e) / 2) he (by omega)
        have := hI.2.2.2.2.1
        have hI2 := dvI_sub hI hge
        have e0 : b - e = 0 := by omega
        rw [e0] at f2 hI2
        exact l_dvEnd (hu.trans u2) f2 hI2 (Or.inl hY) (by omega) ho
  | succ k ih =>
    intro st S1 a b c e hst hu hF hI hG
    by_cases hb : b = 0
    · subst hb
      exact l_dvEnd hu hF hI (Or.inl hY) (by omega) ho
    · have he := hI.2.2.2.2.1
      have h2 : 2 ^ (k + 1) = 2 * 2 ^ k := by rw [Nat.pow_succ, Nat.mul_comm]
      refine l_dvStep hF hp hI (by omega) hb (fun h0 S2 u2 f2 => ?_) (fun h0 hlt S2 u2 f2 => ?_) (fun h0 hge S2 u2 f2 => ?_)
      · have h9 := hG.1 h0
        exact ih (st + 1) S2 _ _ _ _ (by omega) (hu.trans u2) f2 (dvI_half hpo hI h0) (dvG_of he (by omega))
      · have h9 := hG.2.2 h0 hlt
        refine ih (st + 1) S2 _ _ _ _ (by omega) (hu.trans u2) f2 (dvI_swap hI h0) ⟨fun h => by omega, fun _ _ => by omega, fun _ h => by omega⟩
      · have h9 := hG.2.1 h0 hge
        refine ih (st + 1) S2 _ _ _ _ (by omega) (hu.trans u2) f2 (dvI_sub hI hge) ⟨fun _ => by omega, fun h => by omega, fun h => by omega⟩
set_option maxRecDepth 100000 in
set_option maxHeartbeats 2000000 in
theorem c_fd_divide {l : Launch} {G : ks_G} {d : Nat} {S : ks_S} {fo fc n : Nat} {R : Nat → Nat} (hF : fdX S fo fc n R) {o x y : Nat} (ho : o < n) (hx : x ≤ n) (hy : y ≤ n) (hp : R n < 2 ^ 256) (hpo : R n % 2 = 1) (hX : R x < R n) (hY : R y < R n) : ks_P l G yX5_divide mX5_divide (d + 3) [.ref fo, .int (nI (9 * o)), .int (nI (9 * x)), .int (nI (9 * y))] S (fun z S' => z = none ∧ ks_up S S' [fc] ∧ ∃ R2 v, fdX S' fo fc n R2 ∧ (∀ q, q ≤ n → q ≠ o → R2 q = R q) ∧ R2 o = v ∧ dvP (R n) (R x) (R y) v) := by
  have hn := hF.2.2.1
  refine ks_of (by decide) rfl rfl (Nat.le_of_ble_eq_true rfl) ?_
  show ks_X l G mX5_divide (d + 3) 0 [(0, .ref fo), (1, .int (nI (9 * o))), (2, .int (nI (9 * x))), (3, .int (nI (9 * y)))] [] S _
  refine ks_aload_n dX5_divide_0 rfl rfl ?_
  refine ks_aload_n dX5_divide_1 rfl rfl ?_
  refine ks_getf (T := TX5) (kf := 2) kx_125 rfl in_X5 cl_X5 (by decide) hF.1 rfl dX5_divide_2 rfl ?_
  refine ks_iload_n dX5_divide_5 rfl rfl ?_
  refine ks_iconst (x := nI 1) dX5_divide_6 (by decide) rfl ?_
  have e0 := dvR_i n R
  refine ks_callV (n := 3) (M' := mX5_copy) (c_fd_copy (d := d + 1) (o := n + 1) (x := x) (k := 1) hF (by omega) (by omega)) hF.1 cl_X5 rfl kx_1194 kx_531 kx_532 kx_5 kx_533 (by decide +kernel) rfl (by decide) (Nat.le_of_ble_eq_true rfl) rfl dX5_divide_7 rfl (fun q1 T1 h1 => ?_)
  obtain ⟨rfl, u1, f1⟩ := h1
  rw [cpR_1, ← e0, dvR_1, e0] at f1
  obtain ⟨p1, p2, p3, p4, p5⟩ := dvR_r n R (R x) (R (n + 2)) (R (n + 3)) (R (n + 4))
  refine ks_aload_n dX5_divide_10 rfl rfl ?_
  refine ks_aload_n dX5_divide_11 rfl rfl ?_
  refine ks_getf (T := TX5) (kf := 3) kx_126 rfl in_X5 cl_X5 (by decide) f1.1 rfl dX5_divide_12 rfl ?_
  refine ks_iload_n dX5_divide_15 rfl rfl ?_
  refine ks_iconst (x := nI 1) dX5_divide_16 (by decide) rfl ?_
  refine ks_callV (n := 3) (M' := mX5_copy) (c_fd_copy (d := d + 1) (o := n + 2) (x := y) (k := 1) f1 (by omega) (by omega)) f1.1 cl_X5 rfl kx_1194 kx_531 kx_532 kx_5 kx_533 (by decide +kernel) rfl (by decide) (Nat.le_of_ble_eq_true rfl) rfl dX5_divide_17 rfl (fun q2 T2 h2 => ?_)
  obtain ⟨rfl, u2, f2⟩ := h2
  rw [cpR_1, dvR_2, p5 y hy] at f2
  refine ks_aload_n dX5_divide_20 rfl rfl ?_
  refine ks_aload_n dX5_divide_21 rfl rfl ?_
  refine ks_getf (T := TX5) (kf := 4) kx_127 rfl in_X5 cl_X5 (by decide) f2.1 rfl dX5_divide_22 rfl ?_
  refine ks_iconst (x := nI 0) dX5_divide_25 (by decide) rfl ?_
  refine ks_callV (n := 2) (M' := mX5_loadSmall) (c_fd_loadSmall (d := d) (o := n + 3) (v := 0) f2 (by omega) (by decide)) f2.1 cl_X5 rfl kx_1195 kx_146 kx_147 kx_5 kx_148 (by decide +kernel) rfl (by decide) (Nat.le_of_ble_eq_true rfl) rfl dX5_divide_26 rfl (fun q3 T3 h3 => ?_)
  obtain ⟨rfl, u3, f3⟩ := h3
  rw [dvR_3] at f3
  obtain ⟨p1, p2, p3, p4, p5⟩ := dvR_r n R (R x) (R y) 0 (R (n + 4))
  refine ks_aload_n dX5_divide_29 rfl rfl ?_
  refine ks_aload_n dX5_divide_30 rfl rfl ?_
  refine ks_getf (T := TX5) (kf := 5) kx_128 rfl in_X5 cl_X5 (by decide) f3.1 rfl dX5_divide_31 rfl ?_
  refine ks_aload_n dX5_divide_34 rfl rfl ?_
  refine ks_getf (T := TX5) (kf := 1) kx_123 rfl in_X5 cl_X5 (by decide) f3.1 rfl dX5_divide_35 rfl ?_
  refine ks_iconst (x := nI 1) dX5_divide_38 (by decide) rfl ?_
  refine ks_callV (n := 3) (M' := mX5_copy) (c_fd_copy (d := d + 1) (o := n + 4) (x := n) (k := 1) f3 (by omega) (by omega)) f3.1 cl_X5 rfl kx_1194 kx_531 kx_532 kx_5 kx_533 (by decide +kernel) rfl (by decide) (Nat.le_of_ble_eq_true rfl) rfl dX5_divide_39 rfl (fun q4 T4 h4 => ?_)
  obtain ⟨rfl, u4, f4⟩ := h4
  rw [cpR_1, dvR_4, p5 n (Nat.le_refl n)] at f4
  refine ks_iconst (x := nI 0) dX5_divide_42 (by decide) rfl ?_
  refine ks_istore dX5_divide_43 (by decide) rfl ?_
  refine ks_sub [(4, _), (0, _), (1, _), (2, _), (3, _)] rfl ?_
  have hu4 := u1.trans (u2.trans (u3.trans u4))
  have hI : dvI (R n) (R x) (R y) (R x) (R y) 0 (R n) := ⟨hX, by omega, by omega, Nat.le_refl _, hpo, ⟨0, by omega⟩, ⟨-(R x : Int), by rw [Int.neg_mul]; omega⟩, rfl⟩
  refine ks_sub [(0, _), (1, _), (2, _), (3, _), (4, _)] rfl ?_
  by_cases hY0 : R y = 0
  · rw [hY0] at f4 hI
    have h9 := l_dvEnd (l := l) (G := G) (d := d) (o := o) (x := x) (y := y) (st := 0) hu4 f4 (by rw [hY0]; exact hI) (Or.inr rfl) (by omega) ho
    exact h9
  · refine l_dvLoop hp hpo hY0 ho 1026 0 _ _ _ _ _ (by decide) hu4 f4 hI (dvG_of hpo ?_)
    unfold dvM
    have h1 : R y * R n ≤ 2 ^ 256 * 2 ^ 256 := Nat.mul_le_mul (by omega) (by omega)
    have h2 : (R y + R n) * (R y + R n) < 2 ^ 257 * 2 ^ 257 := Nat.mul_lt_mul'' (by omega) (by omega)
    have h3 : R y * R n * ((R y + R n) * (R y + R n)) ≤ 2 ^ 256 * 2 ^ 256 * ((R y + R n) * (R y + R n)) := Nat.mul_le_mul_right _ h1
    have h4 : 2 ^ 256 * 2 ^ 256 * ((R y + R n) * (R y + R n)) < 2 ^ 256 * 2 ^ 256 * (2 ^ 257 * 2 ^ 257) := Nat.mul_lt_mul_of_pos_left h2 (by decide)
    have h5 : 2 ^ 256 * 2 ^ 256 * (2 ^ 257 * 2 ^ 257) = 2 ^ 1026 := by decide +kernel
    exact Nat.lt_of_le_of_lt h3 (Nat.lt_of_lt_of_eq h4 h5)
