/-! REGISTERS of nine limbs of 29 bits -/
theorem p261 : 2 ^ (29 * 9) = 3705346855594118253554271520278013051304639509300498049262642688253220148477952 := by decide +kernel
def dL (v i : Nat) : Nat := v / 2 ^ (29 * i) % 536870912
theorem dL_lt (v i : Nat) : dL v i < 536870912 := Nat.mod_lt _ (by decide)
/-- a row of numbers as limbs -/
def lay (R : Nat → Nat) (j : Nat) : Nat := dL (R (j / 9)) (j % 9)
theorem lay_lt (R : Nat → Nat) (j : Nat) : lay R j < 536870912 := dL_lt _ _
theorem lay_at (R : Nat → Nat) (q : Nat) {i : Nat} (h : i < 9) : lay R (9 * q + i) = dL (R q) i := by
  unfold lay
  rw [show (9 * q + i) / 9 = q by omega, show (9 * q + i) % 9 = i by omega]
theorem lay_0 (R : Nat → Nat) (q : Nat) : lay R (9 * q) = dL (R q) 0 := lay_at R q (i := 0) (by decide)
/-- the first i limbs of register o stand as those of v -/
def layP (R : Nat → Nat) (o v i : Nat) (j : Nat) : Nat := if 9 * o ≤ j ∧ j < 9 * o + i then dL v (j - 9 * o) else lay R j
theorem layP_0 (R : Nat → Nat) (o v : Nat) : layP R o v 0 = lay R := by
  funext j
  unfold layP
  rw [if_neg (by omega)]
theorem layP_9 (R : Nat → Nat) (o v : Nat) : layP R o v 9 = lay (va_up R o v) := by
  funext j
  unfold layP lay
  by_cases c : 9 * o ≤ j ∧ j < 9 * o + 9
  · rw [if_pos c, show j / 9 = o by omega, va_up_self, show j % 9 = j - 9 * o by omega]
  · rw [if_neg c, va_up_ne _ _ (by omega)]
theorem layP_up (R : Nat → Nat) (o v i : Nat) : va_up (layP R o v i) (9 * o + i) (dL v i) = layP R o v (i + 1) := by
  funext j
  by_cases c : j = 9 * o + i
  · subst c
    rw [va_up_self]
    unfold layP
    rw [if_pos (by omega), show 9 * o + i - 9 * o = i by omega]
  · rw [va_up_ne _ _ c]
    unfold layP
    by_cases d : 9 * o ≤ j ∧ j < 9 * o + i
    · rw [if_pos d, if_pos (by omega)]
    · rw [if_neg d, if_neg (by omega)]
theorem layP_rd (R : Nat → Nat) (o v : Nat) {i x : Nat} (h : i < 9) : layP R o v i (9 * x + i) = dL (R x) i := by
  unfold layP
  rw [if_neg (by omega), lay_at R x h]
theorem lay_up_ne (R : Nat → Nat) {o v x i : Nat} (h : x ≠ o) (hi : i < 9) : lay (va_up R o v) (9 * x + i) = dL (R x) i := by
  rw [lay_at _ _ hi, va_up_ne _ _ h]
theorem dL_mod (v : Nat) : ∀ n, dg 536870912 (dL v) n = v % 2 ^ (29 * n)
  | 0 => by rw [show 2 ^ (29 * 0) = 1 from rfl, Nat.mod_one]; rfl
  | n + 1 => by
    rw [dg_s, dL_mod v n, show 2 ^ (29 * (n + 1)) = 2 ^ (29 * n) * 536870912 by rw [Nat.mul_succ, Nat.pow_add], Nat.mod_mul]
    show _ + dL v n * 536870912 ^ n = _
    rw [show 536870912 ^ n = 2 ^ (29 * n) by rw [Nat.pow_mul], Nat.mul_comm (dL v n)]
    rfl
theorem dL_val {v : Nat} (h : v < 3705346855594118253554271520278013051304639509300498049262642688253220148477952) : dg 536870912 (dL v) 9 = v := by
  rw [dL_mod, p261]
  exact Nat.mod_eq_of_lt h
theorem dL_cong {v w : Nat} (h : v % 3705346855594118253554271520278013051304639509300498049262642688253220148477952 = w % 3705346855594118253554271520278013051304639509300498049262642688253220148477952) : ∀ i, i < 9 → dL v i = dL w i := by
  intro i hi
  have e1 : dg 536870912 (dL v) 9 = dg 536870912 (dL w) 9 := by rw [dL_mod, dL_mod, p261]; exact h
  exact dg_inj (by decide) (fun k _ => dL_lt _ _) (fun k _ => dL_lt _ _) e1 i hi
theorem dL_of {f : Nat → Nat} {v : Nat} (hf : ∀ k, k < 9 → f k < 536870912) (hv : dg 536870912 f 9 = v) : ∀ i, i < 9 → f i = dL v i := by
  intro i hi
  have hl : v < 3705346855594118253554271520278013051304639509300498049262642688253220148477952 := by rw [← hv]; exact dg_lt hf
  exact dg_inj (by decide) hf (fun k _ => dL_lt _ _) (hv.trans (dL_val hl).symm) i hi
theorem layP_cong {R : Nat → Nat} {o v w i : Nat} (h : v % 3705346855594118253554271520278013051304639509300498049262642688253220148477952 = w % 3705346855594118253554271520278013051304639509300498049262642688253220148477952) (hi : i ≤ 9) : layP R o v i = layP R o w i := by
  funext j
  unfold layP
  by_cases c : 9 * o ≤ j ∧ j < 9 * o + i
  · rw [if_pos c, if_pos c, dL_cong h _ (by omega)]
  · rw [if_neg c, if_neg c]
/-- the carry into limb i of a sum -/
def cyA (x y i : Nat) : Nat := (x % 2 ^ (29 * i) + y % 2 ^ (29 * i)) / 2 ^ (29 * i)
theorem cyA_0 (x y : Nat) : cyA x y 0 = 0 := by
  unfold cyA
  rw [show 2 ^ (29 * 0) = 1 from rfl, Nat.mod_one, Nat.mod_one]
theorem cyA_le (x y i : Nat) : cyA x y i ≤ 1 := by
  unfold cyA
  have h : 0 < 2 ^ (29 * i) := Nat.two_pow_pos _
  have h1 := Nat.mod_lt x h
  have h2 := Nat.mod_lt y h
  apply Nat.le_of_lt_succ
  rw [Nat.div_lt_iff_lt_mul h]
  omega
theorem add_gen {P B : Nat} (x y : Nat) (hP : 0 < P) : ((x % P + y % P) / P + (x / P % B + y / P % B)) % B = (x + y) / P % B ∧ ((x % P + y % P) / P + (x / P % B + y / P % B)) / B = (x % (P * B) + y % (P * B)) / (P * B) := by
  have hx := Nat.div_add_mod x P
  have hy := Nat.div_add_mod y P
  constructor
  · have e : (x + y) / P = (x % P + y % P) / P + (x / P + y / P) := by
      rw [← Nat.add_mul_div_left _ _ hP, Nat.mul_add]
      congr 1
      omega
    rw [e, Nat.add_mod, ← Nat.add_mod (x / P), ← Nat.add_mod]
  · rw [Nat.mod_mul, Nat.mod_mul, ← Nat.div_div_eq_div_mul, show x % P + P * (x / P % B) + (y % P + P * (y / P % B)) = x % P + y % P + P * (x / P % B + y / P % B) by rw [Nat.mul_add]; omega, Nat.add_mul_div_left _ _ hP]
theorem add_step (x y i : Nat) : (cyA x y i + (dL x i + dL y i)) % 536870912 = dL (x + y) i ∧ (cyA x y i + (dL x i + dL y i)) / 536870912 = cyA x y (i + 1) := by
  have hs : 2 ^ (29 * (i + 1)) = 2 ^ (29 * i) * 536870912 := by rw [Nat.mul_succ, Nat.pow_add]
  have h := add_gen (P := 2 ^ (29 * i)) (B := 536870912) x y (Nat.two_pow_pos _)
  unfold cyA dL
  rw [hs]
  exact h
theorem cyA_9 {x y : Nat} (hx : x < 3705346855594118253554271520278013051304639509300498049262642688253220148477952) (hy : y < 3705346855594118253554271520278013051304639509300498049262642688253220148477952) : cyA x y 9 = (x + y) / 3705346855594118253554271520278013051304639509300498049262642688253220148477952 := by
  unfold cyA
  rw [p261, Nat.mod_eq_of_lt hx, Nat.mod_eq_of_lt hy]
/-- the borrow out of limb i of a difference -/
def cyB (x y i : Nat) : Nat := cyA (x + 3705346855594118253554271520278013051304639509300498049262642688253220148477952 - y) y i
theorem cyB_0 (x y : Nat) : cyB x y 0 = 0 := cyA_0 _ _
theorem cyB_le (x y i : Nat) : cyB x y i ≤ 1 := cyA_le _ _ _
theorem dL_hi (x : Nat) {i : Nat} (h : i < 9) : dL (x + 3705346855594118253554271520278013051304639509300498049262642688253220148477952) i = dL x i := dL_cong (by omega) i h
theorem sub_step {x y i : Nat} (hy : y < 3705346855594118253554271520278013051304639509300498049262642688253220148477952) (hi : i < 9) : (dL x i + 536870912 - dL y i - cyB x y i) % 536870912 = dL (x + 3705346855594118253554271520278013051304639509300498049262642688253220148477952 - y) i ∧ (if dL x i < dL y i + cyB x y i then 1 else 0) = cyB x y (i + 1) := by
  obtain ⟨h1, h2⟩ := add_step (x + 3705346855594118253554271520278013051304639509300498049262642688253220148477952 - y) y i
  rw [show x + 3705346855594118253554271520278013051304639509300498049262642688253220148477952 - y + y = x + 3705346855594118253554271520278013051304639509300498049262642688253220148477952 by omega, dL_hi x hi] at h1
  have a1 := dL_lt (x + 3705346855594118253554271520278013051304639509300498049262642688253220148477952 - y) i
  have a2 := dL_lt y i
  have a3 := dL_lt x i
  have a4 := cyB_le x y i
  show _ ∧ _ = cyA (x + 3705346855594118253554271520278013051304639509300498049262642688253220148477952 - y) y (i + 1)
  rw [← h2]
  unfold cyB at a4 ⊢
  generalize cyA (x + 3705346855594118253554271520278013051304639509300498049262642688253220148477952 - y) y i = c at *
  generalize dL (x + 3705346855594118253554271520278013051304639509300498049262642688253220148477952 - y) i = v at *
  generalize dL y i = b at *
  generalize dL x i = a at *
  constructor
  · omega
  · split <;> omega
theorem cyB_9 {x y : Nat} (hx : x < 3705346855594118253554271520278013051304639509300498049262642688253220148477952) (hy : y < 3705346855594118253554271520278013051304639509300498049262642688253220148477952) : cyB x y 9 = if x < y then 1 else 0 := by
  unfold cyB cyA
  rw [p261, Nat.mod_eq_of_lt hy]
  split
  · rw [Nat.mod_eq_of_lt (show x + 3705346855594118253554271520278013051304639509300498049262642688253220148477952 - y < 3705346855594118253554271520278013051304639509300498049262642688253220148477952 by omega), show x + 3705346855594118253554271520278013051304639509300498049262642688253220148477952 - y + y = x + 3705346855594118253554271520278013051304639509300498049262642688253220148477952 by omega]
    omega
  · rw [show x + 3705346855594118253554271520278013051304639509300498049262642688253220148477952 - y = (x - y) + 3705346855594118253554271520278013051304639509300498049262642688253220148477952 by omega, Nat.add_mod_right, Nat.mod_eq_of_lt (by omega)]
    omega
/-- signed words -/
theorem iL_hi (v : Int) : iL (v + 2 ^ 64) = iL v := by
  apply Int64.toBitVec_inj.mp
  show BitVec.ofInt 64 (v + 2 ^ 64) = BitVec.ofInt 64 v
  apply BitVec.eq_of_toNat_eq
  rw [BitVec.toNat_ofInt, BitVec.toNat_ofInt]
  congr 1
  omega
theorem sg_mask {a b c : Nat} (ha : a < 536870912) (hb : b < 536870912) (hc : c ≤ 1) : iL ((a : Int) - b - c) &&& lN 536870911 = lN ((a + 536870912 - b - c) % 536870912) := by
  have e : iL ((a : Int) - b - c) = lN ((a + 2 ^ 64 - b - c) % 2 ^ 64) := by
    rw [lN_iL]
    by_cases h : a < b + c
    · rw [← iL_hi]
      congr 1
      omega
    · congr 1
      omega
  rw [e]
  have := g_mask (a := (a + 2 ^ 64 - b - c) % 2 ^ 64) (s := 29) (p := 536870912) rfl (by decide) (Nat.mod_lt _ (by decide))
  rw [show 536870912 - 1 = 536870911 from rfl] at this
  rw [this]
  congr 1
  omega
theorem sg_shr {a b c : Nat} (ha : a < 536870912) (hb : b < 536870912) (hc : c ≤ 1) : iL ((a : Int) - b - c) >>> ((nI 29).toInt64 &&& 63) = iL (-((if a < b + c then 1 else 0 : Nat) : Int)) := by
  have e : (((nI 29).toInt64 &&& 63).toBitVec.smod 64).toNat = 29 := by decide +kernel
  apply Int64.toInt_inj.mp
  rw [iL_T (by split <;> omega) (by split <;> omega)]
  show (BitVec.sshiftRight' (iL ((a : Int) - b - c)).toBitVec (((nI 29).toInt64 &&& 63).toBitVec.smod 64)).toInt = _
  rw [BitVec.sshiftRight', e, BitVec.toInt_sshiftRight]
  show (iL ((a : Int) - b - c)).toInt >>> 29 = _
  rw [iL_T (by omega) (by omega), Int.shiftRight_eq_div_pow]
  split <;> omega
theorem dL_0 (v : Nat) : dL v 0 = v % 536870912 := by
  unfold dL
  rw [Nat.mul_zero, Nat.pow_zero, Nat.div_one]
/-- the highest limb that differs decides -/
theorem dL_cmp {x y j : Nat} (hx : x < 3705346855594118253554271520278013051304639509300498049262642688253220148477952) (hy : y < 3705346855594118253554271520278013051304639509300498049262642688253220148477952) (hj : j < 9) (he : ∀ k, j < k → k < 9 → dL x k = dL y k) : (dL x j < dL y j → x < y) ∧ (dL y j < dL x j → y < x) := by
  constructor
  · intro h
    have := dg_cmp (B := 536870912) hj he (fun k _ => dL_lt x k) h
    rwa [dL_val hx, dL_val hy] at this
  · intro h
    have := dg_cmp (B := 536870912) hj (fun k a b => (he k a b).symm) (fun k _ => dL_lt y k) h
    rwa [dL_val hx, dL_val hy] at this
theorem dL_eq {x y : Nat} (hx : x < 3705346855594118253554271520278013051304639509300498049262642688253220148477952) (hy : y < 3705346855594118253554271520278013051304639509300498049262642688253220148477952) (h : ∀ k, k < 9 → dL x k = dL y k) : x = y := by
  rw [← dL_val hx, ← dL_val hy]
  exact dg_congr h
