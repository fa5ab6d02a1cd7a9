/-! NUMBERS OF BYTES -/
section KsT
variable {l : Launch} {G : ks_G} {M : ks_M} {d pc : Nat} {lv : List (Nat × Value)} {st : List Value} {S : ks_S} {P : Option Value → ks_S → Prop}
/-- the top by another name -/
theorem ks_ti {x y : Int32} (h : x = y) (k : ks_X l G M d pc lv (.int y :: st) S P) : ks_X l G M d pc lv (.int x :: st) S P := h ▸ k
theorem ks_tl {x y : Int64} (h : x = y) (k : ks_X l G M d pc lv (.long y :: st) S P) : ks_X l G M d pc lv (.long x :: st) S P := h ▸ k
theorem ks_tS {S' : ks_S} (h : S = S') (k : ks_X l G M d pc lv st S' P) : ks_X l G M d pc lv st S P := h ▸ k
end KsT
/-- the lowest byte of an int -/
def ks_by (x : Int32) : Nat := x.toBitVec.toNat % 256
theorem ks_by_lt (x : Int32) : ks_by x < 256 := Nat.mod_lt _ (by decide)
theorem ks_by_and (x : Int32) : x &&& 255 = nI (ks_by x) := pk_and x 8 (by decide)
/-- the number of so many bytes, the lowest first -/
def ks_num (f : Nat → Int32) : Nat → Nat → Nat
  | _, 0 => 0
  | i, n + 1 => ks_by (f i) + 256 * ks_num f (i + 1) n
theorem ks_num_lt (f : Nat → Int32) : ∀ (n i : Nat), ks_num f i n < 256 ^ n
  | 0, i => by simp [ks_num]
  | n + 1, i => by
    have h1 := ks_num_lt f n (i + 1)
    have h2 := ks_by_lt (f i)
    have e : 256 ^ (n + 1) = 256 ^ n * 256 := Nat.pow_succ _ _
    show ks_by (f i) + 256 * ks_num f (i + 1) n < 256 ^ (n + 1)
    omega
/-- v 2^8 or a byte -/
theorem ks_shl8_or {A b : Nat} (hA : A < 256 ^ 7) (hb : b < 256) : (lN A <<< ((8 : Int32).toInt64 &&& 63)) ||| lN b = lN (b + 256 * A) := by
  have e1 : lN A <<< ((8 : Int32).toInt64 &&& 63) = lN (A * 2 ^ 8) := wb_shl A (k := 8) (by decide)
  rw [e1, g_or (k := 8) (p := 256) (by decide) hb (by simp at hA; omega)]
  congr 1
  omega
theorem ks_m1 (x : Int32) : x + Int32.ofInt (-1) = x - 1 := by
  rw [Int32.sub_eq_add_neg]
  rfl
theorem ks_p1 (n : Nat) : nI n + Int32.ofInt 1 = nI (n + 1) := nI_1 n
