/-! MATHEMATICS: the bytes that are fed -/
def rvB (b : BitVec 32) : BitVec 32 := (((b >>> 24) &&& 255#32) ||| ((b >>> 8) &&& 65280#32) ||| ((b <<< 8) &&& 16711680#32) ||| (b <<< 24))
theorem rvB_at (b : BitVec 32) : ∀ k, k < 4 → ∀ i, i < 8 → (rvB b).getLsbD (8 * k + i) = b.getLsbD (24 - 8 * k + i) := fun k hk i hi => by
  unfold rvB
  rcases (show k = 0 ∨ k = 1 ∨ k = 2 ∨ k = 3 by omega) with rfl | rfl | rfl | rfl <;> rcases (show i = 0 ∨ i = 1 ∨ i = 2 ∨ i = 3 ∨ i = 4 ∨ i = 5 ∨ i = 6 ∨ i = 7 by omega) with rfl | rfl | rfl | rfl | rfl | rfl | rfl | rfl <;> simp [BitVec.getLsbD_or, BitVec.getLsbD_and, BitVec.getLsbD_shiftLeft, BitVec.getLsbD_ushiftRight]
theorem byte_at {w : Nat} (b : BitVec w) (k : Nat) : ∀ i, (b.toNat / 256 ^ k % 256).testBit i = (decide (i < 8) && b.getLsbD (8 * k + i)) := fun i => by
  rw [show (256 : Nat) ^ k = 2 ^ (8 * k) from by rw [Nat.pow_mul], show (256 : Nat) = 2 ^ 8 from rfl, Nat.testBit_mod_two_pow, Nat.testBit_div_two_pow, Nat.add_comm]
  rfl
theorem rvB_byte (b : BitVec 32) {k : Nat} (hk : k < 4) : (rvB b).toNat / 256 ^ k % 256 = b.toNat / 256 ^ (3 - k) % 256 := by
  apply Nat.eq_of_testBit_eq
  intro i
  rw [byte_at, byte_at]
  by_cases hi : i < 8
  · rw [rvB_at b k hk i hi, show 24 - 8 * k + i = 8 * (3 - k) + i by omega]
  · rw [decide_eq_false hi, Bool.false_and, Bool.false_and]
theorem ks_rev_b (x : Int32) : ks_rev x = (Int32.ofBitVec (rvB x.toBitVec)).toInt64 := rfl
theorem shr_by (x : Int32) : ks_by (x >>> (nI 24 &&& 31)) = x.toBitVec.toNat / 256 ^ 3 % 256 ∧ ks_by (x >>> (nI 16 &&& 31)) = x.toBitVec.toNat / 256 ^ 2 % 256 ∧ ks_by (x >>> (nI 8 &&& 31)) = x.toBitVec.toNat / 256 ^ 1 % 256 ∧ ks_by (x >>> (nI 0 &&& 31)) = x.toBitVec.toNat / 256 ^ 0 % 256 := by
  have g : ∀ k, k < 4 → (x.toBitVec.sshiftRight (8 * k)).toNat % 256 = x.toBitVec.toNat / 256 ^ k % 256 := fun k hk => by
    apply Nat.eq_of_testBit_eq
    intro i
    rw [byte_at, show (256 : Nat) = 2 ^ 8 from rfl, Nat.testBit_mod_two_pow]
    by_cases hi : i < 8
    · rw [decide_eq_true hi, Bool.true_and, Bool.true_and]
      show (x.toBitVec.sshiftRight (8 * k)).getLsbD i = _
      rw [BitVec.getLsbD_sshiftRight, if_pos (by omega)]
      rw [decide_eq_false (by omega)]
      rfl
    · rw [decide_eq_false hi, Bool.false_and, Bool.false_and]
  exact ⟨g 3 (by decide), g 2 (by decide), g 1 (by decide), g 0 (by decide)⟩
theorem feed_eq (x : Int32) : wdL x = fdL x := by
  have e : ∀ k, k < 4 → (ks_rev x).toBitVec.toNat / 256 ^ k % 256 = x.toBitVec.toNat / 256 ^ (3 - k) % 256 := fun k hk => by
    rw [← rvB_byte _ hk, ks_rev_b]
    have h := i32_64 (Int32.ofBitVec (rvB x.toBitVec))
    rw [show (Int32.ofBitVec (rvB x.toBitVec)).toBitVec = rvB x.toBitVec from rfl] at h
    obtain ⟨N, eN⟩ : ∃ N, N = (Int32.ofBitVec (rvB x.toBitVec)).toInt64.toBitVec.toNat := ⟨_, rfl⟩
    obtain ⟨L, eL⟩ : ∃ N, N = (rvB x.toBitVec).toNat := ⟨_, rfl⟩
    rw [← eN, ← eL] at h
    rw [← eN, ← eL]
    rcases (show k = 0 ∨ k = 1 ∨ k = 2 ∨ k = 3 by omega) with rfl | rfl | rfl | rfl
    · show N / 1 % 256 = L / 1 % 256
      omega
    · show N / 256 % 256 = L / 256 % 256
      omega
    · show N / 65536 % 256 = L / 65536 % 256
      omega
    · show N / 16777216 % 256 = L / 16777216 % 256
      omega
  obtain ⟨s3, s2, s1, s0⟩ := shr_by x
  unfold fdL wdL numL
  rw [s3, s2, s1, s0, ← e 0 (by decide), ← e 1 (by decide), ← e 2 (by decide), ← e 3 (by decide)]
  rfl
