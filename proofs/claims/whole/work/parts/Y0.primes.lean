/-! PRIMES: the numbers of the curve are prime, Fermat -/
def isPr (n : Nat) : Prop := 2 ≤ n ∧ ∀ d, d ∣ n → d = 1 ∨ d = n
theorem pg_hole : ∀ (k m : Nat) (f : Nat → Nat), (∀ i, i < m → f i < k) → (∀ i j, i < m → j < m → f i = f j → i = j) → m ≤ k
  | 0, m, f, h1, h2 => by
    rcases m with _ | m
    · exact Nat.le_refl _
    · exact absurd (h1 0 (by omega)) (by omega)
  | k + 1, m, f, h1, h2 => by
    by_cases h : ∃ i, i < m ∧ f i = k
    · obtain ⟨i0, hi, e⟩ := h
      have a1 : ∀ i, i < m - 1 → (if i < i0 then f i else f (i + 1)) < k := by
        intro i h3
        by_cases c : i < i0
        · rw [if_pos c]
          have := h1 i (by omega)
          have n : f i ≠ k := fun x => by have := h2 i i0 (by omega) hi (x.trans e.symm); omega
          omega
        · rw [if_neg c]
          have := h1 (i + 1) (by omega)
          have n : f (i + 1) ≠ k := fun x => by have := h2 (i + 1) i0 (by omega) hi (x.trans e.symm); omega
          omega
      have a2 : ∀ i j, i < m - 1 → j < m - 1 → (if i < i0 then f i else f (i + 1)) = (if j < i0 then f j else f (j + 1)) → i = j := by
        intro i j hi2 hj2 e2
        by_cases c : i < i0 <;> by_cases c' : j < i0
        · rw [if_pos c, if_pos c'] at e2
          exact h2 i j (by omega) (by omega) e2
        · rw [if_pos c, if_neg c'] at e2
          have := h2 i (j + 1) (by omega) (by omega) e2
          omega
        · rw [if_neg c, if_pos c'] at e2
          have := h2 (i + 1) j (by omega) (by omega) e2
          omega
        · rw [if_neg c, if_neg c'] at e2
          have := h2 (i + 1) (j + 1) (by omega) (by omega) e2
          omega
      have := pg_hole k (m - 1) (fun i => if i < i0 then f i else f (i + 1)) a1 a2
      omega
    · exact Nat.le_succ_of_le (pg_hole k m f (fun i hi => by have := h1 i hi; have n : f i ≠ k := fun x => h ⟨i, hi, x⟩; omega) h2)
theorem pr_ex : ∀ (m n : Nat), n ≤ m → 2 ≤ n → ∃ q, isPr q ∧ q ∣ n
  | 0, n, h, h2 => by omega
  | m + 1, n, h, h2 => by
    by_cases c : isPr n
    · exact ⟨n, c, Nat.dvd_refl n⟩
    · have : ∃ d, d ∣ n ∧ d ≠ 1 ∧ d ≠ n := Classical.byContradiction fun x => c ⟨h2, fun d hd => Classical.byContradiction fun y => x ⟨d, hd, fun e => y (Or.inl e), fun e => y (Or.inr e)⟩⟩
      obtain ⟨d, hd, d1, d2⟩ := this
      have h3 := Nat.le_of_dvd (by omega) hd
      have h4 : d ≠ 0 := fun e => by rw [e] at hd; have := Nat.eq_zero_of_zero_dvd hd; omega
      obtain ⟨q, hq, hqd⟩ := pr_ex m d (by omega) (by omega)
      exact ⟨q, hq, Nat.dvd_trans hqd hd⟩
theorem pr_mul {q a b : Nat} (h : isPr q) (hd : q ∣ a * b) : q ∣ a ∨ q ∣ b := by
  rcases h.2 _ (Nat.gcd_dvd_left q a) with e | e
  · exact Or.inr (Nat.Coprime.dvd_of_dvd_mul_left e hd)
  · exact Or.inl (e ▸ Nat.gcd_dvd_right q a)
def prL (L : List Nat) : Nat := L.foldr (fun a b => a * b) 1
theorem pr_mem {q : Nat} (h : isPr q) : ∀ L : List Nat, (∀ f ∈ L, isPr f) → q ∣ prL L → q ∈ L
  | [], _, hd => by
    have : q ∣ 1 := hd
    have := Nat.le_of_dvd (by omega) this
    have := h.1
    omega
  | f :: L, hL, hd => by
    rcases pr_mul (a := f) (b := prL L) h hd with e | e
    · rcases (hL f List.mem_cons_self).2 q e with e1 | e1
      · have := h.1
        omega
      · rw [e1]
        exact List.mem_cons_self
    · exact List.mem_cons_of_mem _ (pr_mem h L (fun x hx => hL x (List.mem_cons_of_mem _ hx)) e)
theorem pw_one {h r a : Nat} (k : Nat) (e : h ^ a % r = 1 % r) : (h ^ a) ^ k % r = 1 % r := by rw [Nat.pow_mod, e, ← Nat.pow_mod, Nat.one_pow]
theorem pw_gcd {h r : Nat} (a b : Nat) : h ^ a % r = 1 % r → h ^ b % r = 1 % r → h ^ Nat.gcd a b % r = 1 % r := by
  refine Nat.gcd.induction (P := fun a b => h ^ a % r = 1 % r → h ^ b % r = 1 % r → h ^ Nat.gcd a b % r = 1 % r) a b (fun n _ h2 => by rw [Nat.gcd_zero_left]; exact h2) (fun m n hm ih h1 h2 => ?_)
  rw [Nat.gcd_rec]
  refine ih ?_ h1
  have e : h ^ n = (h ^ m) ^ (n / m) * h ^ (n % m) := by rw [← Nat.pow_mul, ← Nat.pow_add, Nat.div_add_mod]
  rw [e, Nat.mul_mod, pw_one _ h1, ← Nat.mul_mod, Nat.one_mul] at h2
  exact h2
theorem pw_inj {h r F N : Nat} {L : List Nat} (hr : 1 < r) (hN : 0 < N) (hrN : r ∣ N) (h1 : h ^ F % r = 1 % r) (hL : ∀ q, isPr q → q ∣ F → q ∈ L) (hg : ∀ q ∈ L, Nat.gcd (h ^ (F / q) % N + (N - 1)) N = 1) {i j : Nat} (hi : i < j) (hj : j < F) (e : h ^ i % r = h ^ j % r) : False := by
  have a : h ^ (F - i) * h ^ i = h ^ F := by rw [← Nat.pow_add, show F - i + i = F by omega]
  have b : h ^ (F - i) * h ^ j = h ^ F * h ^ (j - i) := by rw [← Nat.pow_add, ← Nat.pow_add, show F - i + j = F + (j - i) by omega]
  have c : (h ^ (F - i) * h ^ i) % r = (h ^ (F - i) * h ^ j) % r := by rw [Nat.mul_mod, e, ← Nat.mul_mod]
  rw [a, b, Nat.mul_mod, h1, ← Nat.mul_mod, Nat.one_mul] at c
  have e2 := pw_gcd (j - i) F c.symm h1
  have hle := Nat.le_of_dvd (by omega) (Nat.gcd_dvd_left (j - i) F)
  obtain ⟨w, hw⟩ := Nat.gcd_dvd_right (j - i) F
  generalize Nat.gcd (j - i) F = g at e2 hle hw
  have hw2 : 2 ≤ w := by
    rcases w with _ | _ | w
    · rw [Nat.mul_zero] at hw
      omega
    · rw [Nat.zero_add, Nat.mul_one] at hw
      omega
    · omega
  obtain ⟨q, hq, hqw⟩ := pr_ex w w (Nat.le_refl _) hw2
  obtain ⟨u, hu⟩ := hqw
  have hF : F = q * (g * u) := by rw [hw, hu]; grind
  have hd : F / q = g * u := Nat.div_eq_of_eq_mul_right (by have := hq.1; omega) hF
  have h3 : h ^ (F / q) % r = 1 % r := by rw [hd, Nat.pow_mul]; exact pw_one u e2
  have h4 := hg q (hL q hq ⟨g * u, hF⟩)
  have h5 : r ∣ h ^ (F / q) % N + (N - 1) := Nat.dvd_of_mod_eq_zero (by rw [Nat.add_mod, Nat.mod_mod_of_dvd _ hrN, h3, ← Nat.add_mod, show 1 + (N - 1) = N by omega]; exact Nat.mod_eq_zero_of_dvd hrN)
  have h6 := Nat.dvd_gcd h5 hrN
  rw [h4] at h6
  have := Nat.le_of_dvd (by omega) h6
  omega
theorem pw_le {h r F N : Nat} {L : List Nat} (hr : 1 < r) (hN : 0 < N) (hrN : r ∣ N) (h1 : h ^ F % N = 1 % N) (hL : ∀ q, isPr q → q ∣ F → q ∈ L) (hg : ∀ q ∈ L, Nat.gcd (h ^ (F / q) % N + (N - 1)) N = 1) : F ≤ r := by
  have h2 : h ^ F % r = 1 % r := by rw [← Nat.mod_mod_of_dvd (h ^ F) hrN, h1, Nat.mod_mod_of_dvd _ hrN]
  refine pg_hole r F (fun i => h ^ i % r) (fun i _ => Nat.mod_lt _ (by omega)) (fun i j hi hj e => ?_)
  rcases Nat.lt_trichotomy i j with c | c | c
  · exact (pw_inj hr hN hrN h2 hL hg c hj e).elim
  · exact c
  · exact (pw_inj hr hN hrN h2 hL hg c hi e.symm).elim
theorem pr_poc {N F h : Nat} {L : List Nat} (hN : 2 ≤ N) (hF : N < F * F) (h1 : h ^ F % N = 1 % N) (hL : ∀ q, isPr q → q ∣ F → q ∈ L) (hg : ∀ q ∈ L, Nat.gcd (h ^ (F / q) % N + (N - 1)) N = 1) : isPr N := by
  refine ⟨hN, fun d hd => Classical.byContradiction fun x => ?_⟩
  obtain ⟨c, hc⟩ := hd
  have hd1 : d ≠ 1 := fun e => x (Or.inl e)
  have hd2 : d ≠ N := fun e => x (Or.inr e)
  have hd0 : d ≠ 0 := fun e => by rw [e, Nat.zero_mul] at hc; omega
  have hc0 : c ≠ 0 := fun e => by rw [e, Nat.mul_zero] at hc; omega
  have hc1 : c ≠ 1 := fun e => by rw [e, Nat.mul_one] at hc; omega
  have f1 := pw_le (r := d) (by omega) (by omega) ⟨c, hc⟩ h1 hL hg
  have f2 := pw_le (r := c) (by omega) (by omega) ⟨d, by rw [hc, Nat.mul_comm]⟩ h1 hL hg
  have := Nat.mul_le_mul f1 f2
  omega
theorem pw_f0 {h p : Nat} (hp : 2 ≤ p) {F i : Nat} (hi : i ≤ F) (h1 : h ^ F % p = 1 % p) : h ^ i % p ≠ 0 := fun e => by
  have a : h ^ F = h ^ i * h ^ (F - i) := by rw [← Nat.pow_add, show i + (F - i) = F by omega]
  rw [a, Nat.mul_mod, e, Nat.zero_mul, Nat.zero_mod, Nat.mod_eq_of_lt (by omega)] at h1
  omega
theorem pr_fer {p m h : Nat} {L : List Nat} (hm : p = m + 1) (hp : 2 ≤ p) (h1 : h ^ m % p = 1 % p) (hL : ∀ q, isPr q → q ∣ m → q ∈ L) (hg : ∀ q ∈ L, Nat.gcd (h ^ (m / q) % p + (p - 1)) p = 1) (a : Nat) (ha : a % p ≠ 0) : a ^ m % p = 1 := by
  have hex : ∃ i, i < m ∧ h ^ i % p = a % p := Classical.byContradiction fun x => by
    have inj : ∀ i j, i < m → j < m → h ^ i % p = h ^ j % p → i = j := fun i j hi hj e => by
      rcases Nat.lt_trichotomy i j with c | c | c
      · exact (pw_inj (by omega) (by omega) (Nat.dvd_refl p) h1 hL hg c hj e).elim
      · exact c
      · exact (pw_inj (by omega) (by omega) (Nat.dvd_refl p) h1 hL hg c hi e.symm).elim
    have n0 : ∀ i, i < m → h ^ i % p ≠ 0 := fun i hi => pw_f0 hp (Nat.le_of_lt hi) h1
    have na : ∀ i, i < m → h ^ i % p ≠ a % p := fun i hi e => x ⟨i, hi, e⟩
    have hlt : ∀ v, v % p < p := fun v => Nat.mod_lt _ (by omega)
    have := pg_hole p (m + 2) (fun i => if i = 0 then 0 else if i = 1 then a % p else h ^ (i - 2) % p) (fun i hi => by
      show (if i = 0 then 0 else if i = 1 then a % p else h ^ (i - 2) % p) < p
      by_cases c : i = 0
      · rw [if_pos c]; omega
      · rw [if_neg c]
        by_cases c2 : i = 1
        · rw [if_pos c2]; exact hlt _
        · rw [if_neg c2]; exact hlt _) (fun i j hi hj e => by
      change (if i = 0 then 0 else if i = 1 then a % p else h ^ (i - 2) % p) = (if j = 0 then 0 else if j = 1 then a % p else h ^ (j - 2) % p) at e
      by_cases c : i = 0
      · by_cases d : j = 0
        · omega
        · rw [if_pos c, if_neg d] at e
          by_cases d2 : j = 1
          · rw [if_pos d2] at e; exact absurd e.symm ha
          · rw [if_neg d2] at e; exact absurd e.symm (n0 _ (by omega))
      · rw [if_neg c] at e
        by_cases c2 : i = 1
        · rw [if_pos c2] at e
          by_cases d : j = 0
          · rw [if_pos d] at e; exact absurd e ha
          · rw [if_neg d] at e
            by_cases d2 : j = 1
            · omega
            · rw [if_neg d2] at e; exact absurd e.symm (na _ (by omega))
        · rw [if_neg c2] at e
          by_cases d : j = 0
          · rw [if_pos d] at e; exact absurd e (n0 _ (by omega))
          · rw [if_neg d] at e
            by_cases d2 : j = 1
            · rw [if_pos d2] at e; exact absurd e (na _ (by omega))
            · rw [if_neg d2] at e
              have := inj _ _ (by omega) (by omega) e
              omega)
    omega
  obtain ⟨i, hi, e⟩ := hex
  rw [Nat.pow_mod, ← e, ← Nat.pow_mod, ← Nat.pow_mul, Nat.mul_comm, Nat.pow_mul, pw_one i h1, Nat.mod_eq_of_lt (by omega)]
theorem pr_fpr {p m : Nat} (hm : p = m + 1) (hp : 2 ≤ p) (h : ∀ a, a % p ≠ 0 → a ^ m % p = 1) : isPr p := by
  refine ⟨hp, fun d hd => Classical.byContradiction fun x => ?_⟩
  have h3 := Nat.le_of_dvd (by omega) hd
  have h4 : d ≠ 0 := fun e => by rw [e] at hd; have := Nat.eq_zero_of_zero_dvd hd; omega
  have h5 : d ≠ 1 := fun e => x (Or.inl e)
  have h6 : d ≠ p := fun e => x (Or.inr e)
  have h7 := h d (by rw [Nat.mod_eq_of_lt (by omega)]; exact h4)
  have h8 : d ^ m % p % d = d ^ m % d := Nat.mod_mod_of_dvd _ hd
  obtain ⟨k, hk⟩ : ∃ k, m = k + 1 := ⟨m - 1, by omega⟩
  rw [h7, Nat.mod_eq_of_lt (by omega), hk, Nat.pow_succ, Nat.mul_mod_left] at h8
  omega
/-- powers by squares -/
def pwM (m : Nat) : Nat → Nat → Nat → Nat
  | 0, _, _ => 1 % m
  | k + 1, b, e => if e % 2 = 1 then b * pwM m k (b * b % m) (e / 2) % m else pwM m k (b * b % m) (e / 2)
theorem pwM_e (m : Nat) : ∀ (k b e : Nat), e < 2 ^ k → pwM m k b e = b ^ e % m
  | 0, b, e, h => by
    have : e = 0 := by
      have : (2 : Nat) ^ 0 = 1 := rfl
      omega
    rw [this, Nat.pow_zero]
    rfl
  | k + 1, b, e, h => by
    have ih := pwM_e m k (b * b % m) (e / 2) (by rw [Nat.pow_succ] at h; omega)
    have e1 : (b * b % m) ^ (e / 2) % m = b ^ (2 * (e / 2)) % m := by rw [← Nat.pow_mod, Nat.pow_mul, Nat.pow_two]
    show (if e % 2 = 1 then b * pwM m k (b * b % m) (e / 2) % m else pwM m k (b * b % m) (e / 2)) = _
    rw [ih, e1]
    by_cases c : e % 2 = 1
    · rw [if_pos c]
      rw [show b ^ e = b * b ^ (2 * (e / 2)) by rw [Nat.mul_comm, ← Nat.pow_succ, show (2 * (e / 2)).succ = e by omega]]
      rw [Nat.mul_mod, Nat.mod_mod, ← Nat.mul_mod]
    · rw [if_neg c, show 2 * (e / 2) = e by omega]
def pkC (N F h : Nat) (L : List Nat) : Bool := decide (pwM N 256 h F = 1) && L.all (fun q => decide (Nat.gcd (pwM N 256 h (F / q) + (N - 1)) N = 1))
theorem pkC_e {N F h : Nat} {L : List Nat} (hN : 2 ≤ N) (hF : F < 2 ^ 256) (hc : pkC N F h L = true) : h ^ F % N = 1 % N ∧ ∀ q ∈ L, Nat.gcd (h ^ (F / q) % N + (N - 1)) N = 1 := by
  unfold pkC at hc
  rw [Bool.and_eq_true, decide_eq_true_eq, List.all_eq_true] at hc
  refine ⟨?_, fun q hq => ?_⟩
  · rw [← pwM_e N 256 h F hF, hc.1, Nat.mod_eq_of_lt (by omega)]
  · have := hc.2 q hq
    rw [decide_eq_true_eq, pwM_e N 256 h (F / q) (Nat.lt_of_le_of_lt (Nat.div_le_self _ _) hF)] at this
    exact this
theorem pr_pocC {N h : Nat} {L : List Nat} (hL : ∀ f ∈ L, isPr f) (hb : prL L < 2 ^ 256) (hN : 2 ≤ N) (hF : N < prL L * prL L) (hc : pkC N (prL L) h L = true) : isPr N :=
  pr_poc hN hF (pkC_e hN hb hc).1 (fun q hq hd => pr_mem hq L hL hd) (pkC_e hN hb hc).2
theorem pr_ferC {p m h : Nat} {L : List Nat} (hL : ∀ f ∈ L, isPr f) (hb : m < 2 ^ 256) (hp : 2 ≤ p) (hm : p = m + 1) (hF : m = prL L) (hc : pkC p m h L = true) (a : Nat) (ha : a % p ≠ 0) : a ^ m % p = 1 :=
  pr_fer hm hp (pkC_e hp hb hc).1 (fun q hq hd => pr_mem hq L hL (hF ▸ hd)) (pkC_e hp hb hc).2 a ha
/-- small ones, by trial -/
def trD (n : Nat) : Nat → Nat → Bool
  | 0, d => decide (n < d * d)
  | k + 1, d => decide (n < d * d) || (decide (n % d ≠ 0) && trD n k (d + 1))
theorem trD_e (n : Nat) : ∀ (k d : Nat), trD n k d = true → ∀ x, d ≤ x → x * x ≤ n → n % x ≠ 0
  | 0, d, h, x, h1, h2 => by
    have : n < d * d := of_decide_eq_true h
    have := Nat.mul_le_mul h1 h1
    omega
  | k + 1, d, h, x, h1, h2 => by
    change (decide (n < d * d) || (decide (n % d ≠ 0) && trD n k (d + 1))) = true at h
    rw [Bool.or_eq_true, Bool.and_eq_true, decide_eq_true_eq, decide_eq_true_eq] at h
    rcases h with h | h
    · have := Nat.mul_le_mul h1 h1
      omega
    · by_cases c : x = d
      · rw [c]; exact h.1
      · exact trD_e n k (d + 1) h.2 x (by omega) h2
theorem pr_tr {n : Nat} (k : Nat) (hn : 2 ≤ n) (h : trD n k 2 = true) : isPr n := by
  refine ⟨hn, fun d hd => Classical.byContradiction fun x => ?_⟩
  obtain ⟨c, hc⟩ := hd
  have hd1 : d ≠ 1 := fun e => x (Or.inl e)
  have hd2 : d ≠ n := fun e => x (Or.inr e)
  have hd0 : d ≠ 0 := fun e => by rw [e, Nat.zero_mul] at hc; omega
  have hc0 : c ≠ 0 := fun e => by rw [e, Nat.mul_zero] at hc; omega
  have hc1 : c ≠ 1 := fun e => by rw [e, Nat.mul_one] at hc; omega
  rcases Nat.le_total d c with l | l
  · have := Nat.mul_le_mul_left d l
    exact trD_e n k 2 h d (by omega) (by omega) (by rw [hc, Nat.mul_mod_right])
  · have := Nat.mul_le_mul_right c l
    exact trD_e n k 2 h c (by omega) (by omega) (by rw [hc, Nat.mul_mod_left])
