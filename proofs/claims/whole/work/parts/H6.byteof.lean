/-! THE REFERENCE: a byte of a number -/
theorem dg_b256 {g : Nat → Nat} {i A : Nat} (hg : ∀ j, j < 8 → g j < 4294967296) (hi : i < 32) (hA : dg 4294967296 g 8 = A) : g (i / 4) / 2 ^ (8 * (i % 4)) % 2 ^ 8 = A / 256 ^ i % 256 := by
  have h := dg_by hg (show i / 4 < 8 by omega) (show 8 * (i % 4) = 0 ∨ 8 * (i % 4) = 8 ∨ 8 * (i % 4) = 16 ∨ 8 * (i % 4) = 24 by omega)
  rw [hA, show 32 * (i / 4) + 8 * (i % 4) = 8 * i by omega, Nat.pow_mul] at h
  exact h.symm
set_option maxRecDepth 100000 in
set_option maxHeartbeats 800000 in
theorem c_md_byteOf {l : Launch} {G : ks_G} {d : Nat} {S : ks_S} {a i A : Nat} (hA : wA S a A) (ha9 : a < ks_B) (hi : i < 32) : ks_P l G yX16_byteOf mX16_byteOf d [.ref a, .int (nI i)] S (fun z S' => z = some (.int (nI (A / 256 ^ i % 256))) ∧ S' = S) := by
  obtain ⟨ga, ega, bga, dga⟩ := hA
  have bg := bga (i / 4) (by omega)
  have hq : ga (i / 4) / 2 ^ (8 * (i % 4)) < 4294967296 := Nat.lt_of_le_of_lt (Nat.div_le_self _ _) bg
  rw [← dg_b256 bga hi dga]
  refine ks_of (by decide) rfl rfl (Nat.le_of_ble_eq_true rfl) ?_
  show ks_X l G mX16_byteOf d 0 [(0, .ref a), (1, .int (nI i))] [] S _
  refine ks_iload_n dX16_byteOf_0 rfl rfl ?_
  refine ks_if_geN (tgt := 8) (by omega) dX16_byteOf_1 (by decide) ?_
  refine ks_aload_n dX16_byteOf_8 rfl rfl ?_
  refine ks_iload_n dX16_byteOf_9 rfl rfl ?_
  refine ks_iconst (x := nI 4) dX16_byteOf_10 (by decide) rfl ?_
  refine ks_divN (by omega) (by decide) (by decide) dX16_byteOf_11 rfl ?_
  refine ks_ialdN (i := i / 4) ega rfl (by omega) (by decide) dX16_byteOf_12 rfl ?_
  refine ks_bipush (x := nI 8) dX16_byteOf_13 (by decide) rfl ?_
  refine ks_iload_n dX16_byteOf_15 rfl rfl ?_
  refine ks_iconst (x := nI 4) dX16_byteOf_16 (by decide) rfl ?_
  refine ks_remN (by omega) (by decide) (by decide) dX16_byteOf_17 rfl ?_
  refine ks_mulN dX16_byteOf_18 rfl ?_
  refine ks_ushrN (k := 8 * (i % 4)) (s_u _ (by omega)) (by omega) dX16_byteOf_19 rfl ?_
  refine ks_sipush (x := nI 255) dX16_byteOf_20 (by decide) rfl ?_
  refine ks_andN (k := 8) (by omega) (by decide) dX16_byteOf_23 rfl ?_
  refine ks_iret rfl dX16_byteOf_24 ?_
  exact ⟨rfl, rfl⟩
set_option maxRecDepth 100000 in
set_option maxHeartbeats 800000 in
theorem c_md_byteOfN {l : Launch} {G : ks_G} {d : Nat} {S : ks_S} {a : Nat} {x : Int32} (hx : x < 0) : ks_P l G yX16_byteOf mX16_byteOf d [.ref a, .int x] S (fun z S' => z = some (.int (nI 0)) ∧ S' = S) := by
  refine ks_of (by decide) rfl rfl (Nat.le_of_ble_eq_true rfl) ?_
  show ks_X l G mX16_byteOf d 0 [(0, .ref a), (1, .int x)] [] S _
  refine ks_iload_n dX16_byteOf_0 rfl rfl ?_
  refine ks_if_ge (tgt := 8) dX16_byteOf_1 (by decide) rfl (fun h1 => ?_) (fun h1 => ?_)
  · exact absurd hx (Int32.not_lt.mpr h1)
  · refine ks_iconst (x := nI 0) dX16_byteOf_4 (by decide) rfl ?_
    refine ks_goto (tgt := 24) dX16_byteOf_5 (by decide) ?_
    refine ks_iret rfl dX16_byteOf_24 ?_
    exact ⟨rfl, rfl⟩
