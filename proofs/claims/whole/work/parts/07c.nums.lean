/-! NUMBERS OF BYTES -/
section KsT
variable {l : Launch} {G : ks_G} {M : ks_M} {d pc : Nat} {lv : List (Nat × Value)} {st : List Value} {S : ks_S} {P : Option Value → ks_S → Prop}
/-- the top by another name -/
theorem ks_ti {x y : Int32} (h : x = y) (k : ks_X l G M d pc lv (.int y :: st) S P) : ks_X l G M d pc lv (.int x :: st) S P := h ▸ k
theorem ks_tl {x y : Int64} (h : x = y) (k : ks_X l G M d pc lv (.long y :: st) S P) : ks_X l G M d pc lv (.long x :: st) S P := h ▸ k
theorem ks_tS {S' : ks_S} (h : S = S') (k : ks_X l G M d pc lv st S' P) : ks_X l G M d pc lv st S P := h ▸ k
end KsT
theorem ks_m1 (x : Int32) : x + Int32.ofInt (-1) = x - 1 := by
  rw [Int32.sub_eq_add_neg]
  rfl
theorem ks_p1 (n : Nat) : nI n + Int32.ofInt 1 = nI (n + 1) := nI_1 n
/-- the lowest byte of an int -/
def ks_by (x : Int32) : Nat := x.toBitVec.toNat % 256
theorem ks_by_lt (x : Int32) : ks_by x < 256 := Nat.mod_lt _ (by decide)
theorem ks_by_and (x : Int32) : x &&& 255 = nI (ks_by x) := pk_and x 8 (by decide)
theorem ks_by_nI (n : Nat) : ks_by (nI n) = n % 256 := by
  have h : (nI n).toBitVec.toNat = n % 2 ^ 32 := BitVec.toNat_ofNat _ _
  unfold ks_by
  rw [h]
  omega
/-- rows of bytes: g tells them, 0 .. 255 -/
def kb (g : Nat → Nat) : Nat → Int32 := fun j => sb_b (g j)
abbrev kB (n : Nat) (g : Nat → Nat) : ks_E := .inl (0, n, .inl (kb g))
theorem kb_fit (g : Nat → Nat) (i : Nat) : fits .byte (.int (kb g i)) = true := sb_fitB _
theorem kb_and {g : Nat → Nat} {j : Nat} (h : g j < 256) : kb g j &&& 255 = nI (g j) := (sb_byte _ h).1
theorem kb_toBV (x : Int32) : x.toInt8.toInt32.toBitVec = (BitVec.ofNat 8 x.toBitVec.toNat).signExtend 32 := by
  show (x.toBitVec.signExtend 8).signExtend 32 = _
  congr 1
  apply BitVec.eq_of_toNat_eq
  rw [BitVec.signExtend_eq_setWidth_of_le _ (by decide), BitVec.toNat_setWidth, BitVec.toNat_ofNat]
theorem kb_low (x : Int32) : sb_b (ks_by x) = x.toInt8.toInt32 := by
  unfold sb_b
  apply Int32.toBitVec_inj.mp
  rw [kb_toBV, kb_toBV]
  congr 1
  apply BitVec.eq_of_toNat_eq
  have h : (nI (ks_by x)).toBitVec.toNat = ks_by x % 2 ^ 32 := BitVec.toNat_ofNat _ _
  rw [BitVec.toNat_ofNat, BitVec.toNat_ofNat, h]
  unfold ks_by
  omega
theorem kb_upd (g : Nat → Nat) (i : Nat) (x : Int32) : upd (kb g) i x.toInt8.toInt32 = kb (va_up g i (ks_by x)) := by
  funext j
  by_cases h : j = i
  · subst h
    simp only [upd, kb, va_up, if_pos, kb_low]
  · simp [upd, kb, va_up, h]
theorem kb_inj : ∀ a, a < 256 → ∀ b, b < 256 → sb_b a = sb_b b → a = b := by
  intro a ha b hb h
  have h1 := (sb_byte a ha).1
  rw [h, (sb_byte b hb).1] at h1
  exact ((nI_eq (by omega) (by omega)).mp h1).symm
theorem kb_cpy (f g : Nat → Nat) (sp dp n : Nat) : va_cpy (kb f) (kb g) sp dp n = kb (va_cpy f g sp dp n) := by
  funext j
  unfold va_cpy kb
  by_cases h : dp ≤ j ∧ j < dp + n <;> simp [h]
theorem kb_0 : (fun _ => 0) = kb (fun _ => 0) := by
  funext j
  exact (show (0 : Int32) = sb_b 0 by decide)
theorem kb_neg : ∀ c, c < 256 → (sb_b c < 0 ↔ 128 ≤ c) := by decide +kernel
/-- all of a row are bytes -/
def kO (g : Nat → Nat) : Prop := ∀ j, g j < 256
theorem kO_up {g : Nat → Nat} (h : kO g) {i c : Nat} (hc : c < 256) : kO (va_up g i c) := fun j => by
  unfold va_up
  by_cases e : j = i <;> simp [e, hc, h j]
theorem kO_cpy {f g : Nat → Nat} (hf : kO f) (hg : kO g) (sp dp n : Nat) : kO (va_cpy f g sp dp n) := fun j => by
  unfold va_cpy
  by_cases e : dp ≤ j ∧ j < dp + n <;> simp [e, hf _, hg j]
/-- the number of so many bytes, the lowest first -/
def ks_num (g : Nat → Nat) : Nat → Nat → Nat
  | _, 0 => 0
  | i, n + 1 => g i + 256 * ks_num g (i + 1) n
theorem ks_num_lt {g : Nat → Nat} (hg : kO g) : ∀ (n i : Nat), ks_num g i n < 256 ^ n
  | 0, i => by simp [ks_num]
  | n + 1, i => by
    have h1 := ks_num_lt hg n (i + 1)
    have h2 := hg i
    have e : 256 ^ (n + 1) = 256 ^ n * 256 := Nat.pow_succ _ _
    show g i + 256 * ks_num g (i + 1) n < 256 ^ (n + 1)
    omega
theorem ks_num_congr {g g' : Nat → Nat} : ∀ (n i i' : Nat), (∀ j, j < n → g (i + j) = g' (i' + j)) → ks_num g i n = ks_num g' i' n
  | 0, _, _, _ => rfl
  | n + 1, i, i', h => by
    show g i + 256 * _ = g' i' + 256 * _
    rw [ks_num_congr n (i + 1) (i' + 1) (fun j hj => by have := h (j + 1) (by omega); rw [Nat.add_assoc, Nat.add_assoc, Nat.add_comm 1 j]; exact this), show g i = g' i' from h 0 (by omega)]
/-- v 2^8 or a byte -/
theorem ks_shl8_or {A b : Nat} (hA : A < 256 ^ 7) (hb : b < 256) : (lN A <<< ((8 : Int32).toInt64 &&& 63)) ||| lN b = lN (b + 256 * A) := by
  have e1 : lN A <<< ((8 : Int32).toInt64 &&& 63) = lN (A * 2 ^ 8) := wb_shl A (k := 8) (by decide)
  rw [e1, g_or (k := 8) (p := 256) (by decide) hb (by simp at hA; omega)]
  congr 1
  omega
/-- so many bytes of a long, the lowest first, laid from i on -/
def ks_lay (g : Nat → Nat) (i n : Nat) (v : Int64) : Nat → Nat := fun j => if i ≤ j ∧ j < i + n then v.toBitVec.toNat / 256 ^ (j - i) % 256 else g j
theorem kO_lay {g : Nat → Nat} (h : kO g) (i n : Nat) (v : Int64) : kO (ks_lay g i n v) := fun j => by
  unfold ks_lay
  by_cases e : i ≤ j ∧ j < i + n
  · rw [if_pos e]
    exact Nat.mod_lt _ (by decide)
  · rw [if_neg e]
    exact h j
theorem ks_lay_0 (g : Nat → Nat) (i : Nat) (v : Int64) : ks_lay g i 0 v = g := by
  funext j
  unfold ks_lay
  rw [if_neg (by omega)]
theorem ks_lay_s (g : Nat → Nat) (i n : Nat) (v : Int64) : va_up (ks_lay g i n v) (i + n) (v.toBitVec.toNat / 256 ^ n % 256) = ks_lay g i (n + 1) v := by
  funext j
  unfold va_up ks_lay
  by_cases h : j = i + n
  · subst h
    rw [if_pos rfl, if_pos (by omega), Nat.add_sub_cancel_left]
  · rw [if_neg h]
    by_cases h2 : i ≤ j ∧ j < i + n
    · rw [if_pos h2, if_pos (by omega)]
    · rw [if_neg h2, if_neg (by omega)]
/-- a byte of a long by a shift -/
theorem ks_by_shr (v : Int64) {k : Nat} (hk : k < 8) : ks_by ((v.toUInt64 >>> (((8 : Int32) * nI k).toInt64.toUInt64 &&& Int64.toUInt64 63)).toInt64.toInt32) = v.toBitVec.toNat / 256 ^ k % 256 := by
  have e0 : (8 : Int32) * nI k = nI (8 * k) := pk_mul 8 k
  obtain ⟨n, hn, rfl⟩ := wb_of v
  rw [e0, wb_shr hn (by omega), lN_i, ks_by_nI, wb_tn hn, show 2 ^ (8 * k) = 256 ^ k by rw [Nat.pow_mul]]
