/-! NUMBERS IN DIGITS -/
def dg (B : Nat) (f : Nat → Nat) : Nat → Nat
  | 0 => 0
  | n + 1 => dg B f n + f n * B ^ n
theorem dg_s (B : Nat) (f : Nat → Nat) (n : Nat) : dg B f (n + 1) = dg B f n + f n * B ^ n := rfl
theorem dg_congr {B : Nat} {f g : Nat → Nat} : ∀ {n : Nat}, (∀ k, k < n → f k = g k) → dg B f n = dg B g n
  | 0, _ => rfl
  | n + 1, h => by rw [dg_s, dg_s, dg_congr (fun k hk => h k (Nat.lt_succ_of_lt hk)), h n (Nat.lt_succ_self n)]
theorem dg_lt {B : Nat} {f : Nat → Nat} : ∀ {n : Nat}, (∀ k, k < n → f k < B) → dg B f n < B ^ n
  | 0, _ => Nat.one_pos
  | n + 1, h => by
    have h1 := dg_lt (n := n) (fun k hk => h k (Nat.lt_succ_of_lt hk))
    have h2 := Nat.mul_le_mul_right (B ^ n) (Nat.succ_le_of_lt (h n (Nat.lt_succ_self n)))
    rw [dg_s, Nat.pow_succ, Nat.mul_comm (B ^ n) B]
    rw [Nat.succ_mul] at h2
    omega
theorem dg_add (B : Nat) (f : Nat → Nat) (n : Nat) : ∀ m, dg B f (n + m) = dg B f n + B ^ n * dg B (fun k => f (n + k)) m
  | 0 => rfl
  | m + 1 => by
    show dg B f (n + m) + f (n + m) * B ^ (n + m) = _
    rw [dg_add B f n m, dg_s, Nat.mul_add, Nat.pow_add, Nat.add_assoc]
    congr 2
    rw [Nat.mul_comm (f (n + m)), Nat.mul_assoc, Nat.mul_comm (B ^ m)]
theorem dg_mod {B : Nat} {f : Nat → Nat} {n j : Nat} (hf : ∀ k, k < j → f k < B) (hj : j ≤ n) : dg B f n % B ^ j = dg B f j := by
  obtain ⟨m, rfl⟩ := Nat.exists_eq_add_of_le hj
  rw [dg_add, Nat.add_mul_mod_self_left]
  exact Nat.mod_eq_of_lt (dg_lt hf)
theorem dg_div {B : Nat} (hB : 0 < B) {f : Nat → Nat} {n j : Nat} (hf : ∀ k, k < j → f k < B) (hj : j ≤ n) : dg B f n / B ^ j = dg B (fun k => f (j + k)) (n - j) := by
  obtain ⟨m, rfl⟩ := Nat.exists_eq_add_of_le hj
  rw [dg_add, Nat.add_mul_div_left _ _ (Nat.pow_pos hB), Nat.div_eq_of_lt (dg_lt hf), Nat.zero_add, Nat.add_sub_cancel_left]
theorem dg_1 (B : Nat) (f : Nat → Nat) : dg B f 1 = f 0 := by show 0 + f 0 * B ^ 0 = f 0; rw [Nat.pow_zero]; omega
theorem dg_c (B : Nat) (f : Nat → Nat) (n : Nat) : dg B f (n + 1) = f 0 + B * dg B (fun k => f (k + 1)) n := by
  rw [Nat.add_comm n 1, dg_add, dg_1, Nat.pow_one]
  congr 3
  funext k
  rw [Nat.add_comm]
theorem dg_dig {B : Nat} (hB : 0 < B) {f : Nat → Nat} {n j : Nat} (hf : ∀ k, k < n → f k < B) (hj : j < n) : dg B f n / B ^ j % B = f j := by
  rw [dg_div hB (fun k hk => hf k (Nat.lt_trans hk hj)) (Nat.le_of_lt hj)]
  obtain ⟨m, hm⟩ := Nat.exists_eq_add_of_lt hj
  rw [show n - j = m + 1 by omega, dg_c, Nat.add_mul_mod_self_left]
  exact Nat.mod_eq_of_lt (hf j hj)
theorem dg_inj {B : Nat} (hB : 0 < B) {f g : Nat → Nat} {n : Nat} (hf : ∀ k, k < n → f k < B) (hg : ∀ k, k < n → g k < B) (h : dg B f n = dg B g n) : ∀ k, k < n → f k = g k := fun k hk => by
  rw [← dg_dig hB hf hk, ← dg_dig hB hg hk, h]
theorem dg_0 {B : Nat} : ∀ {f : Nat → Nat} {n : Nat}, (∀ k, k < n → f k = 0) → dg B f n = 0
  | _, 0, _ => rfl
  | f, n + 1, h => by rw [dg_s, dg_0 (fun k hk => h k (Nat.lt_succ_of_lt hk)), h n (Nat.lt_succ_self n), Nat.zero_mul]
theorem dg_z {B : Nat} (hB : 0 < B) : ∀ {f : Nat → Nat} {n : Nat}, dg B f n = 0 → ∀ k, k < n → f k = 0
  | _, 0, _, k, hk => absurd hk (Nat.not_lt_zero k)
  | f, n + 1, h, k, hk => by
    rw [dg_s] at h
    have h1 : dg B f n = 0 := by omega
    have h2 : f n * B ^ n = 0 := by omega
    rcases Nat.mul_eq_zero.mp h2 with h3 | h3
    · rcases Nat.lt_succ_iff_lt_or_eq.mp hk with h4 | h4
      · exact dg_z hB h1 k h4
      · rw [h4]; exact h3
    · exact absurd h3 (Nat.ne_of_gt (Nat.pow_pos hB))
/-- the highest digit that differs decides -/
theorem dg_cmp {B : Nat} {f g : Nat → Nat} {n j : Nat} (hj : j < n) (he : ∀ k, j < k → k < n → f k = g k) (hf : ∀ k, k < j → f k < B) (h : f j < g j) : dg B f n < dg B g n := by
  obtain ⟨m, hm⟩ := Nat.exists_eq_add_of_lt hj
  have e : n = (j + 1) + m := by omega
  subst e
  rw [dg_add B f (j + 1) m, dg_add B g (j + 1) m, dg_congr (n := m) (f := fun k => f (j + 1 + k)) (g := fun k => g (j + 1 + k)) (fun k hk => he _ (by omega) (by omega))]
  have h1 := dg_lt hf
  have h2 := Nat.mul_le_mul_right (B ^ j) (Nat.succ_le_of_lt h)
  rw [Nat.succ_mul] at h2
  have h3 : dg B f (j + 1) < dg B g (j + 1) := by rw [dg_s, dg_s]; omega
  omega
theorem dg_up_out {B : Nat} {f : Nat → Nat} {n j c : Nat} (h : n ≤ j) : dg B (va_up f j c) n = dg B f n := dg_congr (fun k hk => va_up_ne _ _ (by omega))
theorem dg_up {B : Nat} {f : Nat → Nat} {n j c : Nat} (h : j < n) : dg B (va_up f j c) n + f j * B ^ j = dg B f n + c * B ^ j := by
  obtain ⟨m, hm⟩ := Nat.exists_eq_add_of_lt h
  have e : n = (j + 1) + m := by omega
  subst e
  rw [dg_add B _ (j + 1) m, dg_add B f (j + 1) m, dg_s, dg_s, va_up_self, dg_up_out (Nat.le_refl j), dg_congr (n := m) (f := fun k => va_up f j c (j + 1 + k)) (g := fun k => f (j + 1 + k)) (fun k hk => va_up_ne _ _ (by omega))]
  omega
theorem dg_mono {B : Nat} (f : Nat → Nat) {n m : Nat} (h : n ≤ m) : dg B f n ≤ dg B f m := by
  obtain ⟨q, rfl⟩ := Nat.exists_eq_add_of_le h
  rw [dg_add]
  omega
/-- a digit with a carry -/
theorem dg_cy {B : Nat} {o : Nat → Nat} {i c t X : Nat} (h : dg B o i + B ^ i * c = X) (ho : o i = (c + t) % B) : dg B o (i + 1) + B ^ (i + 1) * ((c + t) / B) = X + t * B ^ i := by
  rw [dg_s, ho, ← h, Nat.pow_succ, Nat.mul_assoc, Nat.mul_comm ((c + t) % B), Nat.add_assoc, ← Nat.mul_add, Nat.mod_add_div, Nat.mul_add, Nat.mul_comm t]
  omega
theorem dg_sm (B : Nat) (f g : Nat → Nat) : ∀ n, dg B (fun k => f k + g k) n = dg B f n + dg B g n
  | 0 => rfl
  | n + 1 => by rw [dg_s, dg_s, dg_s, dg_sm B f g n, Nat.add_mul]; omega
theorem dg_ml (B c : Nat) (f : Nat → Nat) : ∀ n, dg B (fun k => f k * c) n = dg B f n * c
  | 0 => (Nat.zero_mul c).symm
  | n + 1 => by rw [dg_s, dg_s, dg_ml B c f n, Nat.add_mul, Nat.mul_right_comm]
theorem ks_num_dg (g : Nat → Nat) : ∀ (n i : Nat), ks_num g i n = dg 256 (fun k => g (i + k)) n
  | 0, i => by simp [ks_num, dg]
  | n + 1, i => by
    rw [dg_c]
    unfold ks_num
    rw [ks_num_dg g n (i + 1)]
    congr 3
    funext k
    congr 1
    omega
