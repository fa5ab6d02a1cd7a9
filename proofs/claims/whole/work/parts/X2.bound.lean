/-! BOUNDS: targets stay high, works low -/
theorem tg_len_at {N : Nat} : ∀ m, N < 256 ^ m → N < 256 ^ tg_len N m ∧ (N ≠ 0 → 1 ≤ tg_len N m ∧ 256 ^ (tg_len N m - 1) ≤ N)
  | 0, h => by
    have : N = 0 := by rw [Nat.pow_zero] at h; omega
    exact ⟨h, fun x => absurd this x⟩
  | m + 1, h => by
    by_cases c : N < 256 ^ m
    · have e : tg_len N (m + 1) = tg_len N m := if_pos c
      rw [e]
      exact tg_len_at m c
    · have e : tg_len N (m + 1) = m + 1 := if_neg c
      rw [e]
      exact ⟨h, fun _ => ⟨by omega, by rw [Nat.add_sub_cancel]; omega⟩⟩
theorem pw_le2 {a b c : Nat} (h : 2 ^ a ≤ c) (h2 : c < 2 ^ b) : a < b := (Nat.pow_lt_pow_iff_right (by decide : 1 < 2)).mp (Nat.lt_of_le_of_lt h h2)
theorem pw256 (k : Nat) : 256 ^ k = 2 ^ (8 * k) := by rw [Nat.pow_mul]
theorem tg_val {s w : Nat} (hs : s + 3 ≤ 32) (hw : w < 2 ^ 23) : tg_num ((s + 3) * 2 ^ 24 + w) = w * 256 ^ s := by
  unfold tg_num
  have e1 : ((s + 3) * 2 ^ 24 + w) / 2 ^ 24 = s + 3 := by omega
  have e2 : ((s + 3) * 2 ^ 24 + w) / 2 ^ 23 % 2 = 0 := by omega
  have e3 : ((s + 3) * 2 ^ 24 + w) % 256 ^ 3 = w := by
    rw [show (256 : Nat) ^ 3 = 2 ^ 24 from rfl]
    omega
  rw [e1, e2, e3, if_neg (by omega), Nat.pow_add, ← Nat.mul_assoc, Nat.mul_div_cancel _ (by decide)]
theorem dv_half {N K : Nat} (hK : 0 < K) (h : 1 ≤ N / K) : N ≤ 2 * (N / K * K) := by
  have e := Nat.div_add_mod N K
  have l := Nat.mod_lt N hK
  have m := Nat.mul_le_mul_right K h
  rw [Nat.mul_comm K] at e
  omega
theorem tg_half {N : Nat} (h1 : 2 ^ 200 ≤ N) (h2 : N < 2 ^ 255) : N ≤ 2 * tg_num (tg_bits N) ∧ tg_bits N < 2 ^ 31 := by
  have h0 : N ≠ 0 := fun e => by rw [e] at h1; exact absurd h1 (by decide)
  have hb : N < 256 ^ 34 := Nat.lt_trans h2 (by decide)
  obtain ⟨a, b⟩ := tg_len_at 34 hb
  obtain ⟨b1, b2⟩ := b h0
  unfold tg_bits
  generalize tg_len N 34 = L at *
  rw [pw256] at a b2
  have L1 := pw_le2 h1 a
  have L2 := pw_le2 b2 h2
  obtain ⟨k, rfl⟩ : ∃ k, L = k + 3 := ⟨L - 3, by omega⟩
  have ew : tg_w N (k + 3) = N / 256 ^ k := by
    unfold tg_w
    rw [Nat.pow_add, Nat.mul_div_mul_right _ _ (by decide)]
  have wl : N / 256 ^ k < 2 ^ 24 := by
    rw [Nat.div_lt_iff_lt_mul (Nat.pow_pos (by decide)), pw256, ← Nat.pow_add]
    rw [show 24 + 8 * k = 8 * (k + 3) by omega]
    exact a
  have wg : 2 ^ 16 ≤ N / 256 ^ k := by
    rw [Nat.le_div_iff_mul_le (Nat.pow_pos (by decide)), pw256, ← Nat.pow_add]
    rw [show 16 + 8 * k = 8 * (k + 3 - 1) by omega]
    exact b2
  rw [ew]
  by_cases c : 2 ^ 23 ≤ N / 256 ^ k
  · rw [if_pos c]
    have k28 : k ≤ 28 := by
      rcases Nat.lt_or_ge 28 k with d | d
      · exfalso
        have e29 : k = 29 := by omega
        rw [e29, Nat.le_div_iff_mul_le (Nat.pow_pos (by decide))] at c
        have : (2 : Nat) ^ 23 * 256 ^ 29 = 2 ^ 255 := by decide +kernel
        omega
      · exact d
    have ev : N / 256 ^ k / 2 ^ 8 = N / 256 ^ (k + 1) := by rw [Nat.div_div_eq_div_mul, show (256 : Nat) ^ (k + 1) = 256 ^ k * 2 ^ 8 from Nat.pow_succ 256 k]
    rw [show k + 3 + 1 = (k + 1) + 3 by omega, ev]
    have v1 : N / 256 ^ (k + 1) < 2 ^ 16 := by rw [← ev]; omega
    have v2 : 1 ≤ N / 256 ^ (k + 1) := by rw [← ev]; omega
    rw [tg_val (by omega) (by omega)]
    exact ⟨dv_half (Nat.pow_pos (by decide)) v2, by omega⟩
  · rw [if_neg c, tg_val (by omega) (by omega)]
    exact ⟨dv_half (Nat.pow_pos (by decide)) (by omega), by omega⟩
theorem ez_b : 2 ^ 254 ≤ tg_num 545259519 ∧ tg_num 545259519 < 2 ^ 255 := by decide +kernel
theorem tg_stb {N e : Nat} {sp : Int64} (h : 2 ^ (e + 2) ≤ N) (he : e ≤ 254) : 2 ^ e ≤ tg_str N sp ∧ tg_str N sp < 2 ^ 255 := by
  unfold tg_str
  obtain ⟨f1, f2, -⟩ := tg_fl sp
  generalize tg_f sp = f at *
  have a := Nat.mul_le_mul_left N f1
  have b : N * 1200 / 4800 ≤ N * f / 4800 := Nat.div_le_div_right a
  have d : 2 ^ e ≤ N * 1200 / 4800 := by
    rw [Nat.le_div_iff_mul_le (by decide)]
    rw [Nat.pow_add] at h
    generalize 2 ^ e = E at h ⊢
    have : (2 : Nat) ^ 2 = 4 := rfl
    rw [this] at h
    have m := Nat.mul_le_mul_right 1200 h
    rw [Nat.mul_assoc] at m
    exact m
  by_cases c : 2 ^ 255 ≤ N * f / 4800
  · rw [if_pos c]
    exact ⟨Nat.le_trans (Nat.pow_le_pow_right (by decide) he) ez_b.1, ez_b.2⟩
  · rw [if_neg c]
    exact ⟨Nat.le_trans d b, Nat.lt_of_not_le c⟩
/-- of every kept block -/
def tBd (n : Nat) (B : Nat → Bk) : Prop := ∀ i, i < n → bkH (B i) ≤ i ∧ 2 ^ (254 - 3 * (bkH (B i) / 8)) ≤ tg_num (btB (bkM (B i))) ∧ btB (bkM (B i)) < 2 ^ 31 ∧ bkW (B i) ≤ (bkH (B i) + 1) * 2 ^ 23
theorem due_b {n : Nat} {B : Nat → Bk} (h : tBd n B) (hn : n ≤ 60) {x : Nat} (hx : x < n) : dueB B x < 2 ^ 31 ∧ 2 ^ (254 - 3 * ((bkH (B x) + 1) / 8)) ≤ tg_num (dueB B x) := by
  obtain ⟨h1, h2, h3, h4⟩ := h x hx
  unfold dueB
  generalize lN (tmB (bkM (B x))) - lN (tmB (bkM (B (upN B 7 x)))) = sp
  generalize bkH (B x) = H at *
  by_cases c : (H + 1) % 8 = 0
  · rw [if_pos c]
    have e8 : (H + 1) / 8 = H / 8 + 1 := by omega
    rw [e8]
    obtain ⟨e, he⟩ : ∃ e, 254 - 3 * (H / 8) = e + 3 := ⟨254 - 3 * (H / 8) - 3, by omega⟩
    have he2 : 254 - 3 * (H / 8 + 1) = e := by omega
    rw [he2]
    rw [he] at h2
    obtain ⟨s1, s2⟩ := tg_stb (e := e + 1) (sp := sp) h2 (by omega)
    have s3 : 2 ^ 200 ≤ tg_str (tg_num (btB (bkM (B x)))) sp := Nat.le_trans (Nat.pow_le_pow_right (by decide) (by omega)) s1
    obtain ⟨q1, q2⟩ := tg_half s3 s2
    refine ⟨q2, ?_⟩
    rw [Nat.pow_succ] at s1
    omega
  · rw [if_neg c]
    have e8 : (H + 1) / 8 = H / 8 := by omega
    rw [e8]
    exact ⟨h3, h2⟩
theorem wk_b {N e : Nat} (h : 2 ^ e ≤ N) (he : 233 ≤ e) : 2 ^ 256 / (N + 1) ≤ 2 ^ 23 := by
  have a : 2 ^ 233 ≤ N := Nat.le_trans (Nat.pow_le_pow_right (by decide) he) h
  have b : 2 ^ 256 / (N + 1) ≤ 2 ^ 256 / 2 ^ 233 := Nat.div_le_div_left (by omega) (by decide)
  have c : (2 : Nat) ^ 256 / 2 ^ 233 = 2 ^ 23 := by decide +kernel
  omega
theorem tBd.w {n : Nat} {B : Nat → Bk} (h : tBd n B) (hn : n ≤ 60) {x : Nat} (hx : x < n) : bkW (B x) ≤ 2 ^ 29 := by
  obtain ⟨h1, h2, h3, h4⟩ := h x hx
  have : (bkH (B x) + 1) * 2 ^ 23 ≤ 60 * 2 ^ 23 := Nat.mul_le_mul_right _ (by omega)
  have : (60 : Nat) * 2 ^ 23 ≤ 2 ^ 29 := by decide
  omega
/-- a block that is kept -/
theorem tBd.keep {n : Nat} {B : Nat → Bk} (h : tBd n B) (hn : n < 60) {q : Nat} (hq : q < n) {k : Bk} (eb : btB (bkM k) = dueB B q) (eh : bkH k = bkH (B q) + 1) (ew : bkW k = bkW (B q) + 2 ^ 256 / (tg_num (btB (bkM k)) + 1)) : tBd (n + 1) (va_up B n k) := fun i hi => by
  by_cases c : i = n
  · have e : va_up B n k i = k := by rw [c]; exact if_pos rfl
    rw [e, eh, ew, eb, c]
    obtain ⟨d1, d2⟩ := due_b h (by omega) hq
    obtain ⟨h1, h2, h3, h4⟩ := h q hq
    refine ⟨by omega, d2, d1, ?_⟩
    have := wk_b d2 (by omega)
    have e2 : (bkH (B q) + 1 + 1) * 2 ^ 23 = (bkH (B q) + 1) * 2 ^ 23 + 2 ^ 23 := Nat.succ_mul _ _
    omega
  · have e : va_up B n k i = B i := if_neg c
    rw [e]
    exact h i (by omega)
theorem tBd.e {n : Nat} {B B' : Nat → Bk} (h : tBd n B) (e : ∀ i, i < n → bkM (B' i) = bkM (B i) ∧ bkH (B' i) = bkH (B i) ∧ bkW (B' i) = bkW (B i)) : tBd n B' := fun i hi => by
  rw [(e i hi).1, (e i hi).2.1, (e i hi).2.2]
  exact h i hi
