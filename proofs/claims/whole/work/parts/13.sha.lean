/-! SHA-256, as both sides reckon it -/
abbrev kI (n : Nat) (f : Nat → Int32) : ks_E := .inl (1, n, .inl f)
abbrev kJ (n : Nat) (f : Nat → Int64) : ks_E := .inl (2, n, .inr (.inl f))
/-- the static rows stand in the state -/
def ks_stOK (S : ks_S) : Prop := ∀ (i : Nat) (q : String × String × List Int32), ks_stat[i]? = some q → S.2.2 (ks_B + i) = some (kI q.2.2.length (ks_row q.2.2))
theorem ks_stOK.set {S : ks_S} (h : ks_stOK S) {a : Nat} (ha : a < ks_B) (e : ks_E) : ks_stOK (ks_set S a e) := fun i q hq => (ks_set_ne S e (by omega)).trans (h i q hq)
def ks_upto {α : Type} (F f : Nat → α) (i : Nat) : Nat → α := fun j => if j < i then F j else f j
theorem ks_upto_0 {α : Type} (F f : Nat → α) : ks_upto F f 0 = f := by
  funext j
  unfold ks_upto
  rw [if_neg (by omega)]
theorem ks_upto_s {α : Type} (F f : Nat → α) (i : Nat) : va_up (ks_upto F f i) i (F i) = ks_upto F f (i + 1) := by
  funext j
  unfold va_up ks_upto
  by_cases h : j = i
  · subst h
    rw [if_pos rfl, if_pos (by omega)]
  · rw [if_neg h]
    by_cases h2 : j < i
    · rw [if_pos h2, if_pos (by omega)]
    · rw [if_neg h2, if_neg (by omega)]
theorem ks_orN {a b k : Nat} (ha : 2 ^ k ∣ a) (hb : b < 2 ^ k) : nI a ||| nI b = nI (a + b) := by
  obtain ⟨c, rfl⟩ := ha
  apply Int32.toBitVec_inj.mp
  show BitVec.ofNat 32 (2 ^ k * c) ||| BitVec.ofNat 32 b = BitVec.ofNat 32 (2 ^ k * c + b)
  rw [Nat.two_pow_add_eq_or_of_lt hb]
  apply BitVec.eq_of_toNat_eq
  rw [BitVec.toNat_or, BitVec.toNat_ofNat, BitVec.toNat_ofNat, BitVec.toNat_ofNat, Nat.or_mod_two_pow]
/-- four bytes, the highest first -/
def ks_be4 (g : Nat → Nat) (i : Nat) : Nat := g i * 16777216 + g (i + 1) * 65536 + g (i + 2) * 256 + g (i + 3)
theorem ks_sh24 {c : Nat} (h : c < 256) (x : Int32) (hx : ks_by x = c) : x <<< ((24 : Int32) &&& 31) = nI (c * 16777216) := by
  apply Int32.toBitVec_inj.mp
  apply BitVec.eq_of_toNat_eq
  rw [pk_shl x _ 24 (by decide)]
  have h2 : (nI (c * 16777216)).toBitVec.toNat = c * 16777216 % 2 ^ 32 := BitVec.toNat_ofNat _ _
  rw [h2]
  subst hx
  unfold ks_by
  omega
theorem ks_be4_eq {g : Nat → Nat} (hg : kO g) (i : Nat) : (kb g i <<< ((24 : Int32) &&& 31)) ||| ((kb g (i + 1) &&& 255) <<< ((16 : Int32) &&& 31)) ||| ((kb g (i + 2) &&& 255) <<< ((8 : Int32) &&& 31)) ||| (kb g (i + 3) &&& 255) = nI (ks_be4 g i) := by
  have h0 := hg i
  have h1 := hg (i + 1)
  have h2 := hg (i + 2)
  have h3 := hg (i + 3)
  rw [ks_sh24 h0 (kb g i) (ks_by_b h0), kb_and h1, kb_and h2, kb_and h3, pk_shlN ((16 : Int32) &&& 31) 16 (by decide) (by omega), pk_shlN ((8 : Int32) &&& 31) 8 (by decide) (by omega)]
  rw [ks_orN (k := 24) ⟨g i, by omega⟩ (by omega), ks_orN (k := 16) ⟨g i * 256 + g (i + 1), by omega⟩ (by omega), ks_orN (k := 8) ⟨g i * 65536 + g (i + 1) * 256 + g (i + 2), by omega⟩ (by omega)]
  congr 1
def ks_ur (x n : Int32) : Int32 := (x.toUInt32 >>> (n.toUInt32 &&& Int32.toUInt32 31)).toInt32
def ks_sl (x n : Int32) : Int32 := x <<< (n &&& 31)
def sh_s0 (x : Int32) : Int32 := (ks_ur x 7 ||| ks_sl x 25) ^^^ (ks_ur x 18 ||| ks_sl x 14) ^^^ ks_ur x 3
def sh_s1 (y : Int32) : Int32 := (ks_ur y 17 ||| ks_sl y 15) ^^^ (ks_ur y 19 ||| ks_sl y 13) ^^^ ks_ur y 10
def sh_S1 (e : Int32) : Int32 := (ks_ur e 6 ||| ks_sl e 26) ^^^ (ks_ur e 11 ||| ks_sl e 21) ^^^ (ks_ur e 25 ||| ks_sl e 7)
def sh_S0 (a : Int32) : Int32 := (ks_ur a 2 ||| ks_sl a 30) ^^^ (ks_ur a 13 ||| ks_sl a 19) ^^^ (ks_ur a 22 ||| ks_sl a 10)
/-- the words from 16 on -/
def sh_ext (w : Nat → Int32) : Nat → (Nat → Int32)
  | 0 => w
  | k + 1 => va_up (sh_ext w k) (16 + k) (sh_ext w k k + sh_s0 (sh_ext w k (k + 1)) + sh_ext w k (k + 9) + sh_s1 (sh_ext w k (k + 14)))
theorem sh_ext_congr {w w' : Nat → Int32} (h : ∀ j, j < 16 → w j = w' j) : ∀ k j, j < 16 + k → sh_ext w k j = sh_ext w' k j
  | 0, j, hj => h j hj
  | k + 1, j, hj => by
    have ih := sh_ext_congr h k
    show va_up _ _ _ j = va_up _ _ _ j
    unfold va_up
    by_cases e : j = 16 + k
    · rw [if_pos e, if_pos e, ih k (by omega), ih (k + 1) (by omega), ih (k + 9) (by omega), ih (k + 14) (by omega)]
    · rw [if_neg e, if_neg e, ih j (by omega)]
abbrev sh_T : Type := Int32 × Int32 × Int32 × Int32 × Int32 × Int32 × Int32 × Int32
def sh_x (t : sh_T) (k w : Int32) : Int32 := t.2.2.2.2.2.2.2 + sh_S1 t.2.2.2.2.1 + ((t.2.2.2.2.1 &&& t.2.2.2.2.2.1) ^^^ ((t.2.2.2.2.1 ^^^ (-1)) &&& t.2.2.2.2.2.2.1)) + k + w
def sh_y (t : sh_T) : Int32 := sh_S0 t.1 + ((t.1 &&& t.2.1) ^^^ (t.1 &&& t.2.2.1) ^^^ (t.2.1 &&& t.2.2.1))
def sh_step (t : sh_T) (k w : Int32) : sh_T := (sh_x t k w + sh_y t, t.1, t.2.1, t.2.2.1, t.2.2.2.1 + sh_x t k w, t.2.2.2.2.1, t.2.2.2.2.2.1, t.2.2.2.2.2.2.1)
def sh_rd (K w : Nat → Int32) (t : sh_T) : Nat → sh_T
  | 0 => t
  | i + 1 => sh_step (sh_rd K w t i) (K i) (w i)
theorem sh_rd_congr {K w w' : Nat → Int32} {t : sh_T} : ∀ n, (∀ j, j < n → w j = w' j) → sh_rd K w t n = sh_rd K w' t n
  | 0, _ => rfl
  | n + 1, h => by
    show sh_step _ _ _ = sh_step _ _ _
    rw [sh_rd_congr n (fun j hj => h j (by omega)), h n (by omega)]
def sh_t (F : Nat → Int32) : sh_T := (F 0, F 1, F 2, F 3, F 4, F 5, F 6, F 7)
/-- the state behind a block -/
def sh_fin (F : Nat → Int32) (t : sh_T) : Nat → Int32 := va_up (va_up (va_up (va_up (va_up (va_up (va_up (va_up F 0 (F 0 + t.1)) 1 (F 1 + t.2.1)) 2 (F 2 + t.2.2.1)) 3 (F 3 + t.2.2.2.1)) 4 (F 4 + t.2.2.2.2.1)) 5 (F 5 + t.2.2.2.2.2.1)) 6 (F 6 + t.2.2.2.2.2.2.1)) 7 (F 7 + t.2.2.2.2.2.2.2)
def sh_K : Nat → Int32 := ks_row st_SHA_WORDS
def sh_B (g : Nat → Nat) (i : Nat) : Nat → Int32 := fun j => nI (ks_be4 g (i + 4 * j))
/-- one block of 64 bytes of g, from i on -/
def sh_blk (F : Nat → Int32) (g : Nat → Nat) (i : Nat) : Nat → Int32 := sh_fin F (sh_rd sh_K (sh_ext (sh_B g i) 48) (sh_t F) 64)
