/-! WORDS: an instruction by its bytes -/
theorem u1_at {c : ByteArray} {p b : Nat} (h : (c.data.toList[p]?).map UInt8.toNat = some b) : (Jvm.ClassFile.Reader.u1 : Jvm.ClassFile.Decoder Nat) c p = .ok (b, p + 1) := by
  have hs : p < c.size := by
    rcases Nat.lt_or_ge p c.size with h1 | h1
    · exact h1
    · rw [List.getElem?_eq_none (show c.data.toList.length ≤ p from h1)] at h
      cases h
  have e : c[p].toNat = b := by
    rw [List.getElem?_eq_getElem (show p < c.data.toList.length from hs)] at h
    exact Option.some.inj h
  show (if h : p < c.size then _ else _ : Jvm.ClassFile.Decoder Nat) c p = _
  rw [dif_pos hs]
  show Except.ok (c[p].toNat, p + 1) = _
  rw [e]
theorem bind_at {α β : Type} {r : Jvm.ClassFile.Decoder α} {k : α → Jvm.ClassFile.Decoder β} {c : ByteArray} {p q : Nat} {x : α} (h : r c p = .ok (x, q)) : (r >>= k) c p = k x c q := by
  show Except.bind (r c p) (fun y => k y.1 c y.2) = _
  rw [h]
  rfl
theorem dec_of {c : ByteArray} {pc n : Nat} {i : Instr} (h : (Jvm.ClassFile.Decoder.instr pc) c pc = .ok (i, pc + n)) : decode c pc = .ok (i, n) := by
  unfold decode
  show Except.bind ((Jvm.ClassFile.Decoder.instr pc) c pc) _ = _
  rw [h]
  show Except.ok (i, pc + n - pc) = _
  rw [Nat.add_sub_cancel_left]
theorem u2_at {c : ByteArray} {p a b : Nat} (h : (Jvm.ClassFile.Reader.u1 : Jvm.ClassFile.Decoder Nat) c p = .ok (a, p + 1)) (h2 : (Jvm.ClassFile.Reader.u1 : Jvm.ClassFile.Decoder Nat) c (p + 1) = .ok (b, p + 2)) : (Jvm.ClassFile.Reader.u2 : Jvm.ClassFile.Decoder Nat) c p = .ok (a * 256 + b, p + 2) := by
  unfold Jvm.ClassFile.Reader.u2
  refine Eq.trans (bind_at h) ?_
  exact bind_at h2

theorem dec_dup {c : ByteArray} {pc : Nat} (h : (Jvm.ClassFile.Reader.u1 : Jvm.ClassFile.Decoder Nat) c pc = .ok (89, pc + 1)) : decode c pc = .ok (.dup, 1) := by
  refine dec_of ?_
  unfold Jvm.ClassFile.Decoder.instr
  exact (bind_at h).trans rfl
theorem dec_iastore {c : ByteArray} {pc : Nat} (h : (Jvm.ClassFile.Reader.u1 : Jvm.ClassFile.Decoder Nat) c pc = .ok (79, pc + 1)) : decode c pc = .ok (.iastore, 1) := by
  refine dec_of ?_
  unfold Jvm.ClassFile.Decoder.instr
  exact (bind_at h).trans rfl
theorem dec_bastore {c : ByteArray} {pc : Nat} (h : (Jvm.ClassFile.Reader.u1 : Jvm.ClassFile.Decoder Nat) c pc = .ok (84, pc + 1)) : decode c pc = .ok (.bastore, 1) := by
  refine dec_of ?_
  unfold Jvm.ClassFile.Decoder.instr
  exact (bind_at h).trans rfl
theorem dec_lastore {c : ByteArray} {pc : Nat} (h : (Jvm.ClassFile.Reader.u1 : Jvm.ClassFile.Decoder Nat) c pc = .ok (80, pc + 1)) : decode c pc = .ok (.lastore, 1) := by
  refine dec_of ?_
  unfold Jvm.ClassFile.Decoder.instr
  exact (bind_at h).trans rfl
theorem dec_pop {c : ByteArray} {pc : Nat} (h : (Jvm.ClassFile.Reader.u1 : Jvm.ClassFile.Decoder Nat) c pc = .ok (87, pc + 1)) : decode c pc = .ok (.pop, 1) := by
  refine dec_of ?_
  unfold Jvm.ClassFile.Decoder.instr
  exact (bind_at h).trans rfl
theorem dec_return_ {c : ByteArray} {pc : Nat} (h : (Jvm.ClassFile.Reader.u1 : Jvm.ClassFile.Decoder Nat) c pc = .ok (177, pc + 1)) : decode c pc = .ok (.return_, 1) := by
  refine dec_of ?_
  unfold Jvm.ClassFile.Decoder.instr
  exact (bind_at h).trans rfl
theorem dec_iconstm1 {c : ByteArray} {pc : Nat} (h : (Jvm.ClassFile.Reader.u1 : Jvm.ClassFile.Decoder Nat) c pc = .ok (2, pc + 1)) : decode c pc = .ok ((.iconst (-1)), 1) := by
  refine dec_of ?_
  unfold Jvm.ClassFile.Decoder.instr
  exact (bind_at h).trans rfl
theorem dec_iconst0 {c : ByteArray} {pc : Nat} (h : (Jvm.ClassFile.Reader.u1 : Jvm.ClassFile.Decoder Nat) c pc = .ok (3, pc + 1)) : decode c pc = .ok ((.iconst 0), 1) := by
  refine dec_of ?_
  unfold Jvm.ClassFile.Decoder.instr
  exact (bind_at h).trans rfl
theorem dec_iconst1 {c : ByteArray} {pc : Nat} (h : (Jvm.ClassFile.Reader.u1 : Jvm.ClassFile.Decoder Nat) c pc = .ok (4, pc + 1)) : decode c pc = .ok ((.iconst 1), 1) := by
  refine dec_of ?_
  unfold Jvm.ClassFile.Decoder.instr
  exact (bind_at h).trans rfl
theorem dec_iconst2 {c : ByteArray} {pc : Nat} (h : (Jvm.ClassFile.Reader.u1 : Jvm.ClassFile.Decoder Nat) c pc = .ok (5, pc + 1)) : decode c pc = .ok ((.iconst 2), 1) := by
  refine dec_of ?_
  unfold Jvm.ClassFile.Decoder.instr
  exact (bind_at h).trans rfl
theorem dec_iconst3 {c : ByteArray} {pc : Nat} (h : (Jvm.ClassFile.Reader.u1 : Jvm.ClassFile.Decoder Nat) c pc = .ok (6, pc + 1)) : decode c pc = .ok ((.iconst 3), 1) := by
  refine dec_of ?_
  unfold Jvm.ClassFile.Decoder.instr
  exact (bind_at h).trans rfl
theorem dec_iconst4 {c : ByteArray} {pc : Nat} (h : (Jvm.ClassFile.Reader.u1 : Jvm.ClassFile.Decoder Nat) c pc = .ok (7, pc + 1)) : decode c pc = .ok ((.iconst 4), 1) := by
  refine dec_of ?_
  unfold Jvm.ClassFile.Decoder.instr
  exact (bind_at h).trans rfl
theorem dec_iconst5 {c : ByteArray} {pc : Nat} (h : (Jvm.ClassFile.Reader.u1 : Jvm.ClassFile.Decoder Nat) c pc = .ok (8, pc + 1)) : decode c pc = .ok ((.iconst 5), 1) := by
  refine dec_of ?_
  unfold Jvm.ClassFile.Decoder.instr
  exact (bind_at h).trans rfl
theorem dec_aload0 {c : ByteArray} {pc : Nat} (h : (Jvm.ClassFile.Reader.u1 : Jvm.ClassFile.Decoder Nat) c pc = .ok (42, pc + 1)) : decode c pc = .ok ((.aload_n 0), 1) := by
  refine dec_of ?_
  unfold Jvm.ClassFile.Decoder.instr
  exact (bind_at h).trans rfl
theorem dec_iload0 {c : ByteArray} {pc : Nat} (h : (Jvm.ClassFile.Reader.u1 : Jvm.ClassFile.Decoder Nat) c pc = .ok (26, pc + 1)) : decode c pc = .ok ((.iload_n 0), 1) := by
  refine dec_of ?_
  unfold Jvm.ClassFile.Decoder.instr
  exact (bind_at h).trans rfl
theorem dec_istore0 {c : ByteArray} {pc : Nat} (h : (Jvm.ClassFile.Reader.u1 : Jvm.ClassFile.Decoder Nat) c pc = .ok (59, pc + 1)) : decode c pc = .ok ((.istore_n 0), 1) := by
  refine dec_of ?_
  unfold Jvm.ClassFile.Decoder.instr
  exact (bind_at h).trans rfl
theorem dec_astore0 {c : ByteArray} {pc : Nat} (h : (Jvm.ClassFile.Reader.u1 : Jvm.ClassFile.Decoder Nat) c pc = .ok (75, pc + 1)) : decode c pc = .ok ((.astore_n 0), 1) := by
  refine dec_of ?_
  unfold Jvm.ClassFile.Decoder.instr
  exact (bind_at h).trans rfl
theorem dec_aload1 {c : ByteArray} {pc : Nat} (h : (Jvm.ClassFile.Reader.u1 : Jvm.ClassFile.Decoder Nat) c pc = .ok (43, pc + 1)) : decode c pc = .ok ((.aload_n 1), 1) := by
  refine dec_of ?_
  unfold Jvm.ClassFile.Decoder.instr
  exact (bind_at h).trans rfl
theorem dec_iload1 {c : ByteArray} {pc : Nat} (h : (Jvm.ClassFile.Reader.u1 : Jvm.ClassFile.Decoder Nat) c pc = .ok (27, pc + 1)) : decode c pc = .ok ((.iload_n 1), 1) := by
  refine dec_of ?_
  unfold Jvm.ClassFile.Decoder.instr
  exact (bind_at h).trans rfl
theorem dec_istore1 {c : ByteArray} {pc : Nat} (h : (Jvm.ClassFile.Reader.u1 : Jvm.ClassFile.Decoder Nat) c pc = .ok (60, pc + 1)) : decode c pc = .ok ((.istore_n 1), 1) := by
  refine dec_of ?_
  unfold Jvm.ClassFile.Decoder.instr
  exact (bind_at h).trans rfl
theorem dec_astore1 {c : ByteArray} {pc : Nat} (h : (Jvm.ClassFile.Reader.u1 : Jvm.ClassFile.Decoder Nat) c pc = .ok (76, pc + 1)) : decode c pc = .ok ((.astore_n 1), 1) := by
  refine dec_of ?_
  unfold Jvm.ClassFile.Decoder.instr
  exact (bind_at h).trans rfl
theorem dec_aload2 {c : ByteArray} {pc : Nat} (h : (Jvm.ClassFile.Reader.u1 : Jvm.ClassFile.Decoder Nat) c pc = .ok (44, pc + 1)) : decode c pc = .ok ((.aload_n 2), 1) := by
  refine dec_of ?_
  unfold Jvm.ClassFile.Decoder.instr
  exact (bind_at h).trans rfl
theorem dec_iload2 {c : ByteArray} {pc : Nat} (h : (Jvm.ClassFile.Reader.u1 : Jvm.ClassFile.Decoder Nat) c pc = .ok (28, pc + 1)) : decode c pc = .ok ((.iload_n 2), 1) := by
  refine dec_of ?_
  unfold Jvm.ClassFile.Decoder.instr
  exact (bind_at h).trans rfl
theorem dec_istore2 {c : ByteArray} {pc : Nat} (h : (Jvm.ClassFile.Reader.u1 : Jvm.ClassFile.Decoder Nat) c pc = .ok (61, pc + 1)) : decode c pc = .ok ((.istore_n 2), 1) := by
  refine dec_of ?_
  unfold Jvm.ClassFile.Decoder.instr
  exact (bind_at h).trans rfl
theorem dec_astore2 {c : ByteArray} {pc : Nat} (h : (Jvm.ClassFile.Reader.u1 : Jvm.ClassFile.Decoder Nat) c pc = .ok (77, pc + 1)) : decode c pc = .ok ((.astore_n 2), 1) := by
  refine dec_of ?_
  unfold Jvm.ClassFile.Decoder.instr
  exact (bind_at h).trans rfl
theorem dec_aload3 {c : ByteArray} {pc : Nat} (h : (Jvm.ClassFile.Reader.u1 : Jvm.ClassFile.Decoder Nat) c pc = .ok (45, pc + 1)) : decode c pc = .ok ((.aload_n 3), 1) := by
  refine dec_of ?_
  unfold Jvm.ClassFile.Decoder.instr
  exact (bind_at h).trans rfl
theorem dec_iload3 {c : ByteArray} {pc : Nat} (h : (Jvm.ClassFile.Reader.u1 : Jvm.ClassFile.Decoder Nat) c pc = .ok (29, pc + 1)) : decode c pc = .ok ((.iload_n 3), 1) := by
  refine dec_of ?_
  unfold Jvm.ClassFile.Decoder.instr
  exact (bind_at h).trans rfl
theorem dec_istore3 {c : ByteArray} {pc : Nat} (h : (Jvm.ClassFile.Reader.u1 : Jvm.ClassFile.Decoder Nat) c pc = .ok (62, pc + 1)) : decode c pc = .ok ((.istore_n 3), 1) := by
  refine dec_of ?_
  unfold Jvm.ClassFile.Decoder.instr
  exact (bind_at h).trans rfl
theorem dec_astore3 {c : ByteArray} {pc : Nat} (h : (Jvm.ClassFile.Reader.u1 : Jvm.ClassFile.Decoder Nat) c pc = .ok (78, pc + 1)) : decode c pc = .ok ((.astore_n 3), 1) := by
  refine dec_of ?_
  unfold Jvm.ClassFile.Decoder.instr
  exact (bind_at h).trans rfl
theorem dec_iaload {c : ByteArray} {pc : Nat} (h : (Jvm.ClassFile.Reader.u1 : Jvm.ClassFile.Decoder Nat) c pc = .ok (46, pc + 1)) : decode c pc = .ok (.iaload, 1) := by
  refine dec_of ?_
  unfold Jvm.ClassFile.Decoder.instr
  exact (bind_at h).trans rfl
theorem dec_laload {c : ByteArray} {pc : Nat} (h : (Jvm.ClassFile.Reader.u1 : Jvm.ClassFile.Decoder Nat) c pc = .ok (47, pc + 1)) : decode c pc = .ok (.laload, 1) := by
  refine dec_of ?_
  unfold Jvm.ClassFile.Decoder.instr
  exact (bind_at h).trans rfl
theorem dec_aaload {c : ByteArray} {pc : Nat} (h : (Jvm.ClassFile.Reader.u1 : Jvm.ClassFile.Decoder Nat) c pc = .ok (50, pc + 1)) : decode c pc = .ok (.aaload, 1) := by
  refine dec_of ?_
  unfold Jvm.ClassFile.Decoder.instr
  exact (bind_at h).trans rfl
theorem dec_baload {c : ByteArray} {pc : Nat} (h : (Jvm.ClassFile.Reader.u1 : Jvm.ClassFile.Decoder Nat) c pc = .ok (51, pc + 1)) : decode c pc = .ok (.baload, 1) := by
  refine dec_of ?_
  unfold Jvm.ClassFile.Decoder.instr
  exact (bind_at h).trans rfl
theorem dec_aastore {c : ByteArray} {pc : Nat} (h : (Jvm.ClassFile.Reader.u1 : Jvm.ClassFile.Decoder Nat) c pc = .ok (83, pc + 1)) : decode c pc = .ok (.aastore, 1) := by
  refine dec_of ?_
  unfold Jvm.ClassFile.Decoder.instr
  exact (bind_at h).trans rfl
theorem dec_pop2 {c : ByteArray} {pc : Nat} (h : (Jvm.ClassFile.Reader.u1 : Jvm.ClassFile.Decoder Nat) c pc = .ok (88, pc + 1)) : decode c pc = .ok (.pop2, 1) := by
  refine dec_of ?_
  unfold Jvm.ClassFile.Decoder.instr
  exact (bind_at h).trans rfl
theorem dec_dup2 {c : ByteArray} {pc : Nat} (h : (Jvm.ClassFile.Reader.u1 : Jvm.ClassFile.Decoder Nat) c pc = .ok (92, pc + 1)) : decode c pc = .ok (.dup2, 1) := by
  refine dec_of ?_
  unfold Jvm.ClassFile.Decoder.instr
  exact (bind_at h).trans rfl
theorem dec_iadd {c : ByteArray} {pc : Nat} (h : (Jvm.ClassFile.Reader.u1 : Jvm.ClassFile.Decoder Nat) c pc = .ok (96, pc + 1)) : decode c pc = .ok (.iadd, 1) := by
  refine dec_of ?_
  unfold Jvm.ClassFile.Decoder.instr
  exact (bind_at h).trans rfl
theorem dec_ladd {c : ByteArray} {pc : Nat} (h : (Jvm.ClassFile.Reader.u1 : Jvm.ClassFile.Decoder Nat) c pc = .ok (97, pc + 1)) : decode c pc = .ok (.ladd, 1) := by
  refine dec_of ?_
  unfold Jvm.ClassFile.Decoder.instr
  exact (bind_at h).trans rfl
theorem dec_isub {c : ByteArray} {pc : Nat} (h : (Jvm.ClassFile.Reader.u1 : Jvm.ClassFile.Decoder Nat) c pc = .ok (100, pc + 1)) : decode c pc = .ok (.isub, 1) := by
  refine dec_of ?_
  unfold Jvm.ClassFile.Decoder.instr
  exact (bind_at h).trans rfl
theorem dec_lsub {c : ByteArray} {pc : Nat} (h : (Jvm.ClassFile.Reader.u1 : Jvm.ClassFile.Decoder Nat) c pc = .ok (101, pc + 1)) : decode c pc = .ok (.lsub, 1) := by
  refine dec_of ?_
  unfold Jvm.ClassFile.Decoder.instr
  exact (bind_at h).trans rfl
theorem dec_imul {c : ByteArray} {pc : Nat} (h : (Jvm.ClassFile.Reader.u1 : Jvm.ClassFile.Decoder Nat) c pc = .ok (104, pc + 1)) : decode c pc = .ok (.imul, 1) := by
  refine dec_of ?_
  unfold Jvm.ClassFile.Decoder.instr
  exact (bind_at h).trans rfl
theorem dec_lmul {c : ByteArray} {pc : Nat} (h : (Jvm.ClassFile.Reader.u1 : Jvm.ClassFile.Decoder Nat) c pc = .ok (105, pc + 1)) : decode c pc = .ok (.lmul, 1) := by
  refine dec_of ?_
  unfold Jvm.ClassFile.Decoder.instr
  exact (bind_at h).trans rfl
theorem dec_idiv {c : ByteArray} {pc : Nat} (h : (Jvm.ClassFile.Reader.u1 : Jvm.ClassFile.Decoder Nat) c pc = .ok (108, pc + 1)) : decode c pc = .ok (.idiv, 1) := by
  refine dec_of ?_
  unfold Jvm.ClassFile.Decoder.instr
  exact (bind_at h).trans rfl
theorem dec_ldiv {c : ByteArray} {pc : Nat} (h : (Jvm.ClassFile.Reader.u1 : Jvm.ClassFile.Decoder Nat) c pc = .ok (109, pc + 1)) : decode c pc = .ok (.ldiv, 1) := by
  refine dec_of ?_
  unfold Jvm.ClassFile.Decoder.instr
  exact (bind_at h).trans rfl
theorem dec_irem {c : ByteArray} {pc : Nat} (h : (Jvm.ClassFile.Reader.u1 : Jvm.ClassFile.Decoder Nat) c pc = .ok (112, pc + 1)) : decode c pc = .ok (.irem, 1) := by
  refine dec_of ?_
  unfold Jvm.ClassFile.Decoder.instr
  exact (bind_at h).trans rfl
theorem dec_lrem {c : ByteArray} {pc : Nat} (h : (Jvm.ClassFile.Reader.u1 : Jvm.ClassFile.Decoder Nat) c pc = .ok (113, pc + 1)) : decode c pc = .ok (.lrem, 1) := by
  refine dec_of ?_
  unfold Jvm.ClassFile.Decoder.instr
  exact (bind_at h).trans rfl
theorem dec_ineg {c : ByteArray} {pc : Nat} (h : (Jvm.ClassFile.Reader.u1 : Jvm.ClassFile.Decoder Nat) c pc = .ok (116, pc + 1)) : decode c pc = .ok (.ineg, 1) := by
  refine dec_of ?_
  unfold Jvm.ClassFile.Decoder.instr
  exact (bind_at h).trans rfl
theorem dec_lneg {c : ByteArray} {pc : Nat} (h : (Jvm.ClassFile.Reader.u1 : Jvm.ClassFile.Decoder Nat) c pc = .ok (117, pc + 1)) : decode c pc = .ok (.lneg, 1) := by
  refine dec_of ?_
  unfold Jvm.ClassFile.Decoder.instr
  exact (bind_at h).trans rfl
theorem dec_ishl {c : ByteArray} {pc : Nat} (h : (Jvm.ClassFile.Reader.u1 : Jvm.ClassFile.Decoder Nat) c pc = .ok (120, pc + 1)) : decode c pc = .ok (.ishl, 1) := by
  refine dec_of ?_
  unfold Jvm.ClassFile.Decoder.instr
  exact (bind_at h).trans rfl
theorem dec_lshl {c : ByteArray} {pc : Nat} (h : (Jvm.ClassFile.Reader.u1 : Jvm.ClassFile.Decoder Nat) c pc = .ok (121, pc + 1)) : decode c pc = .ok (.lshl, 1) := by
  refine dec_of ?_
  unfold Jvm.ClassFile.Decoder.instr
  exact (bind_at h).trans rfl
theorem dec_ishr {c : ByteArray} {pc : Nat} (h : (Jvm.ClassFile.Reader.u1 : Jvm.ClassFile.Decoder Nat) c pc = .ok (122, pc + 1)) : decode c pc = .ok (.ishr, 1) := by
  refine dec_of ?_
  unfold Jvm.ClassFile.Decoder.instr
  exact (bind_at h).trans rfl
theorem dec_lshr {c : ByteArray} {pc : Nat} (h : (Jvm.ClassFile.Reader.u1 : Jvm.ClassFile.Decoder Nat) c pc = .ok (123, pc + 1)) : decode c pc = .ok (.lshr, 1) := by
  refine dec_of ?_
  unfold Jvm.ClassFile.Decoder.instr
  exact (bind_at h).trans rfl
theorem dec_iushr {c : ByteArray} {pc : Nat} (h : (Jvm.ClassFile.Reader.u1 : Jvm.ClassFile.Decoder Nat) c pc = .ok (124, pc + 1)) : decode c pc = .ok (.iushr, 1) := by
  refine dec_of ?_
  unfold Jvm.ClassFile.Decoder.instr
  exact (bind_at h).trans rfl
theorem dec_lushr {c : ByteArray} {pc : Nat} (h : (Jvm.ClassFile.Reader.u1 : Jvm.ClassFile.Decoder Nat) c pc = .ok (125, pc + 1)) : decode c pc = .ok (.lushr, 1) := by
  refine dec_of ?_
  unfold Jvm.ClassFile.Decoder.instr
  exact (bind_at h).trans rfl
theorem dec_iand {c : ByteArray} {pc : Nat} (h : (Jvm.ClassFile.Reader.u1 : Jvm.ClassFile.Decoder Nat) c pc = .ok (126, pc + 1)) : decode c pc = .ok (.iand, 1) := by
  refine dec_of ?_
  unfold Jvm.ClassFile.Decoder.instr
  exact (bind_at h).trans rfl
theorem dec_land {c : ByteArray} {pc : Nat} (h : (Jvm.ClassFile.Reader.u1 : Jvm.ClassFile.Decoder Nat) c pc = .ok (127, pc + 1)) : decode c pc = .ok (.land, 1) := by
  refine dec_of ?_
  unfold Jvm.ClassFile.Decoder.instr
  exact (bind_at h).trans rfl
theorem dec_ior {c : ByteArray} {pc : Nat} (h : (Jvm.ClassFile.Reader.u1 : Jvm.ClassFile.Decoder Nat) c pc = .ok (128, pc + 1)) : decode c pc = .ok (.ior, 1) := by
  refine dec_of ?_
  unfold Jvm.ClassFile.Decoder.instr
  exact (bind_at h).trans rfl
theorem dec_lor {c : ByteArray} {pc : Nat} (h : (Jvm.ClassFile.Reader.u1 : Jvm.ClassFile.Decoder Nat) c pc = .ok (129, pc + 1)) : decode c pc = .ok (.lor, 1) := by
  refine dec_of ?_
  unfold Jvm.ClassFile.Decoder.instr
  exact (bind_at h).trans rfl
theorem dec_ixor {c : ByteArray} {pc : Nat} (h : (Jvm.ClassFile.Reader.u1 : Jvm.ClassFile.Decoder Nat) c pc = .ok (130, pc + 1)) : decode c pc = .ok (.ixor, 1) := by
  refine dec_of ?_
  unfold Jvm.ClassFile.Decoder.instr
  exact (bind_at h).trans rfl
theorem dec_lxor {c : ByteArray} {pc : Nat} (h : (Jvm.ClassFile.Reader.u1 : Jvm.ClassFile.Decoder Nat) c pc = .ok (131, pc + 1)) : decode c pc = .ok (.lxor, 1) := by
  refine dec_of ?_
  unfold Jvm.ClassFile.Decoder.instr
  exact (bind_at h).trans rfl
theorem dec_i2l {c : ByteArray} {pc : Nat} (h : (Jvm.ClassFile.Reader.u1 : Jvm.ClassFile.Decoder Nat) c pc = .ok (133, pc + 1)) : decode c pc = .ok (.i2l, 1) := by
  refine dec_of ?_
  unfold Jvm.ClassFile.Decoder.instr
  exact (bind_at h).trans rfl
theorem dec_l2i {c : ByteArray} {pc : Nat} (h : (Jvm.ClassFile.Reader.u1 : Jvm.ClassFile.Decoder Nat) c pc = .ok (136, pc + 1)) : decode c pc = .ok (.l2i, 1) := by
  refine dec_of ?_
  unfold Jvm.ClassFile.Decoder.instr
  exact (bind_at h).trans rfl
theorem dec_i2b {c : ByteArray} {pc : Nat} (h : (Jvm.ClassFile.Reader.u1 : Jvm.ClassFile.Decoder Nat) c pc = .ok (145, pc + 1)) : decode c pc = .ok (.i2b, 1) := by
  refine dec_of ?_
  unfold Jvm.ClassFile.Decoder.instr
  exact (bind_at h).trans rfl
theorem dec_i2c {c : ByteArray} {pc : Nat} (h : (Jvm.ClassFile.Reader.u1 : Jvm.ClassFile.Decoder Nat) c pc = .ok (146, pc + 1)) : decode c pc = .ok (.i2c, 1) := by
  refine dec_of ?_
  unfold Jvm.ClassFile.Decoder.instr
  exact (bind_at h).trans rfl
theorem dec_lcmp {c : ByteArray} {pc : Nat} (h : (Jvm.ClassFile.Reader.u1 : Jvm.ClassFile.Decoder Nat) c pc = .ok (148, pc + 1)) : decode c pc = .ok (.lcmp, 1) := by
  refine dec_of ?_
  unfold Jvm.ClassFile.Decoder.instr
  exact (bind_at h).trans rfl
theorem dec_ireturn {c : ByteArray} {pc : Nat} (h : (Jvm.ClassFile.Reader.u1 : Jvm.ClassFile.Decoder Nat) c pc = .ok (172, pc + 1)) : decode c pc = .ok (.ireturn, 1) := by
  refine dec_of ?_
  unfold Jvm.ClassFile.Decoder.instr
  exact (bind_at h).trans rfl
theorem dec_lreturn {c : ByteArray} {pc : Nat} (h : (Jvm.ClassFile.Reader.u1 : Jvm.ClassFile.Decoder Nat) c pc = .ok (173, pc + 1)) : decode c pc = .ok (.lreturn, 1) := by
  refine dec_of ?_
  unfold Jvm.ClassFile.Decoder.instr
  exact (bind_at h).trans rfl
theorem dec_areturn {c : ByteArray} {pc : Nat} (h : (Jvm.ClassFile.Reader.u1 : Jvm.ClassFile.Decoder Nat) c pc = .ok (176, pc + 1)) : decode c pc = .ok (.areturn, 1) := by
  refine dec_of ?_
  unfold Jvm.ClassFile.Decoder.instr
  exact (bind_at h).trans rfl
theorem dec_arraylength {c : ByteArray} {pc : Nat} (h : (Jvm.ClassFile.Reader.u1 : Jvm.ClassFile.Decoder Nat) c pc = .ok (190, pc + 1)) : decode c pc = .ok (.arraylength, 1) := by
  refine dec_of ?_
  unfold Jvm.ClassFile.Decoder.instr
  exact (bind_at h).trans rfl
theorem dec_athrow {c : ByteArray} {pc : Nat} (h : (Jvm.ClassFile.Reader.u1 : Jvm.ClassFile.Decoder Nat) c pc = .ok (191, pc + 1)) : decode c pc = .ok (.athrow, 1) := by
  refine dec_of ?_
  unfold Jvm.ClassFile.Decoder.instr
  exact (bind_at h).trans rfl
theorem dec_aconst_null {c : ByteArray} {pc : Nat} (h : (Jvm.ClassFile.Reader.u1 : Jvm.ClassFile.Decoder Nat) c pc = .ok (1, pc + 1)) : decode c pc = .ok (.aconst_null, 1) := by
  refine dec_of ?_
  unfold Jvm.ClassFile.Decoder.instr
  exact (bind_at h).trans rfl
theorem dec_lload0 {c : ByteArray} {pc : Nat} (h : (Jvm.ClassFile.Reader.u1 : Jvm.ClassFile.Decoder Nat) c pc = .ok (30, pc + 1)) : decode c pc = .ok ((.lload_n 0), 1) := by
  refine dec_of ?_
  unfold Jvm.ClassFile.Decoder.instr
  exact (bind_at h).trans rfl
theorem dec_lstore0 {c : ByteArray} {pc : Nat} (h : (Jvm.ClassFile.Reader.u1 : Jvm.ClassFile.Decoder Nat) c pc = .ok (63, pc + 1)) : decode c pc = .ok ((.lstore_n 0), 1) := by
  refine dec_of ?_
  unfold Jvm.ClassFile.Decoder.instr
  exact (bind_at h).trans rfl
theorem dec_lload1 {c : ByteArray} {pc : Nat} (h : (Jvm.ClassFile.Reader.u1 : Jvm.ClassFile.Decoder Nat) c pc = .ok (31, pc + 1)) : decode c pc = .ok ((.lload_n 1), 1) := by
  refine dec_of ?_
  unfold Jvm.ClassFile.Decoder.instr
  exact (bind_at h).trans rfl
theorem dec_lstore1 {c : ByteArray} {pc : Nat} (h : (Jvm.ClassFile.Reader.u1 : Jvm.ClassFile.Decoder Nat) c pc = .ok (64, pc + 1)) : decode c pc = .ok ((.lstore_n 1), 1) := by
  refine dec_of ?_
  unfold Jvm.ClassFile.Decoder.instr
  exact (bind_at h).trans rfl
theorem dec_lload2 {c : ByteArray} {pc : Nat} (h : (Jvm.ClassFile.Reader.u1 : Jvm.ClassFile.Decoder Nat) c pc = .ok (32, pc + 1)) : decode c pc = .ok ((.lload_n 2), 1) := by
  refine dec_of ?_
  unfold Jvm.ClassFile.Decoder.instr
  exact (bind_at h).trans rfl
theorem dec_lstore2 {c : ByteArray} {pc : Nat} (h : (Jvm.ClassFile.Reader.u1 : Jvm.ClassFile.Decoder Nat) c pc = .ok (65, pc + 1)) : decode c pc = .ok ((.lstore_n 2), 1) := by
  refine dec_of ?_
  unfold Jvm.ClassFile.Decoder.instr
  exact (bind_at h).trans rfl
theorem dec_lload3 {c : ByteArray} {pc : Nat} (h : (Jvm.ClassFile.Reader.u1 : Jvm.ClassFile.Decoder Nat) c pc = .ok (33, pc + 1)) : decode c pc = .ok ((.lload_n 3), 1) := by
  refine dec_of ?_
  unfold Jvm.ClassFile.Decoder.instr
  exact (bind_at h).trans rfl
theorem dec_lstore3 {c : ByteArray} {pc : Nat} (h : (Jvm.ClassFile.Reader.u1 : Jvm.ClassFile.Decoder Nat) c pc = .ok (66, pc + 1)) : decode c pc = .ok ((.lstore_n 3), 1) := by
  refine dec_of ?_
  unfold Jvm.ClassFile.Decoder.instr
  exact (bind_at h).trans rfl
theorem dec_lconst0 {c : ByteArray} {pc : Nat} (h : (Jvm.ClassFile.Reader.u1 : Jvm.ClassFile.Decoder Nat) c pc = .ok (9, pc + 1)) : decode c pc = .ok ((.lconst 0), 1) := by
  refine dec_of ?_
  unfold Jvm.ClassFile.Decoder.instr
  exact (bind_at h).trans rfl
theorem dec_lconst1 {c : ByteArray} {pc : Nat} (h : (Jvm.ClassFile.Reader.u1 : Jvm.ClassFile.Decoder Nat) c pc = .ok (10, pc + 1)) : decode c pc = .ok ((.lconst 1), 1) := by
  refine dec_of ?_
  unfold Jvm.ClassFile.Decoder.instr
  exact (bind_at h).trans rfl
theorem dec_bipush {c : ByteArray} {pc a : Nat} {v : Int} (h : (Jvm.ClassFile.Reader.u1 : Jvm.ClassFile.Decoder Nat) c pc = .ok (16, pc + 1)) (h2 : (Jvm.ClassFile.Reader.u1 : Jvm.ClassFile.Decoder Nat) c (pc + 1) = .ok (a, pc + 2)) (hv : Jvm.ClassFile.Reader.signed 8 a = v) : decode c pc = .ok (.bipush v, 2) := by
  refine dec_of ?_
  unfold Jvm.ClassFile.Decoder.instr
  refine (bind_at h).trans ?_
  subst hv
  show Except.bind (Except.bind ((Jvm.ClassFile.Reader.u1 : Jvm.ClassFile.Decoder Nat) c (pc + 1)) _) _ = _
  rw [h2]
  rfl
theorem dec_iload {c : ByteArray} {pc a : Nat} (h : (Jvm.ClassFile.Reader.u1 : Jvm.ClassFile.Decoder Nat) c pc = .ok (21, pc + 1)) (h2 : (Jvm.ClassFile.Reader.u1 : Jvm.ClassFile.Decoder Nat) c (pc + 1) = .ok (a, pc + 2)) : decode c pc = .ok (.iload a, 2) := by
  refine dec_of ?_
  unfold Jvm.ClassFile.Decoder.instr
  refine (bind_at h).trans ?_
  exact (bind_at h2).trans rfl
theorem dec_istore {c : ByteArray} {pc a : Nat} (h : (Jvm.ClassFile.Reader.u1 : Jvm.ClassFile.Decoder Nat) c pc = .ok (54, pc + 1)) (h2 : (Jvm.ClassFile.Reader.u1 : Jvm.ClassFile.Decoder Nat) c (pc + 1) = .ok (a, pc + 2)) : decode c pc = .ok (.istore a, 2) := by
  refine dec_of ?_
  unfold Jvm.ClassFile.Decoder.instr
  refine (bind_at h).trans ?_
  exact (bind_at h2).trans rfl
theorem dec_astore {c : ByteArray} {pc a : Nat} (h : (Jvm.ClassFile.Reader.u1 : Jvm.ClassFile.Decoder Nat) c pc = .ok (58, pc + 1)) (h2 : (Jvm.ClassFile.Reader.u1 : Jvm.ClassFile.Decoder Nat) c (pc + 1) = .ok (a, pc + 2)) : decode c pc = .ok (.astore a, 2) := by
  refine dec_of ?_
  unfold Jvm.ClassFile.Decoder.instr
  refine (bind_at h).trans ?_
  exact (bind_at h2).trans rfl
theorem dec_aload {c : ByteArray} {pc a : Nat} (h : (Jvm.ClassFile.Reader.u1 : Jvm.ClassFile.Decoder Nat) c pc = .ok (25, pc + 1)) (h2 : (Jvm.ClassFile.Reader.u1 : Jvm.ClassFile.Decoder Nat) c (pc + 1) = .ok (a, pc + 2)) : decode c pc = .ok (.aload a, 2) := by
  refine dec_of ?_
  unfold Jvm.ClassFile.Decoder.instr
  refine (bind_at h).trans ?_
  exact (bind_at h2).trans rfl
theorem dec_lload {c : ByteArray} {pc a : Nat} (h : (Jvm.ClassFile.Reader.u1 : Jvm.ClassFile.Decoder Nat) c pc = .ok (22, pc + 1)) (h2 : (Jvm.ClassFile.Reader.u1 : Jvm.ClassFile.Decoder Nat) c (pc + 1) = .ok (a, pc + 2)) : decode c pc = .ok (.lload a, 2) := by
  refine dec_of ?_
  unfold Jvm.ClassFile.Decoder.instr
  refine (bind_at h).trans ?_
  exact (bind_at h2).trans rfl
theorem dec_lstore {c : ByteArray} {pc a : Nat} (h : (Jvm.ClassFile.Reader.u1 : Jvm.ClassFile.Decoder Nat) c pc = .ok (55, pc + 1)) (h2 : (Jvm.ClassFile.Reader.u1 : Jvm.ClassFile.Decoder Nat) c (pc + 1) = .ok (a, pc + 2)) : decode c pc = .ok (.lstore a, 2) := by
  refine dec_of ?_
  unfold Jvm.ClassFile.Decoder.instr
  refine (bind_at h).trans ?_
  exact (bind_at h2).trans rfl
theorem dec_ldc {c : ByteArray} {pc a : Nat} (h : (Jvm.ClassFile.Reader.u1 : Jvm.ClassFile.Decoder Nat) c pc = .ok (18, pc + 1)) (h2 : (Jvm.ClassFile.Reader.u1 : Jvm.ClassFile.Decoder Nat) c (pc + 1) = .ok (a, pc + 2)) : decode c pc = .ok (.ldc a, 2) := by
  refine dec_of ?_
  unfold Jvm.ClassFile.Decoder.instr
  refine (bind_at h).trans ?_
  exact (bind_at h2).trans rfl
theorem dec_sipush {c : ByteArray} {pc a b : Nat} {v : Int} (h : (Jvm.ClassFile.Reader.u1 : Jvm.ClassFile.Decoder Nat) c pc = .ok (17, pc + 1)) (h2 : (Jvm.ClassFile.Reader.u1 : Jvm.ClassFile.Decoder Nat) c (pc + 1) = .ok (a, pc + 2)) (h3 : (Jvm.ClassFile.Reader.u1 : Jvm.ClassFile.Decoder Nat) c (pc + 2) = .ok (b, pc + 3)) (hv : Jvm.ClassFile.Reader.signed 16 (a * 256 + b) = v) : decode c pc = .ok (.sipush v, 3) := by
  refine dec_of ?_
  unfold Jvm.ClassFile.Decoder.instr
  refine (bind_at h).trans ?_
  subst hv
  show Except.bind (Except.bind ((Jvm.ClassFile.Reader.u2 : Jvm.ClassFile.Decoder Nat) c (pc + 1)) _) _ = _
  rw [u2_at h2 h3]
  rfl
theorem dec_goto {c : ByteArray} {pc a b : Nat} {v : Int} (h : (Jvm.ClassFile.Reader.u1 : Jvm.ClassFile.Decoder Nat) c pc = .ok (167, pc + 1)) (h2 : (Jvm.ClassFile.Reader.u1 : Jvm.ClassFile.Decoder Nat) c (pc + 1) = .ok (a, pc + 2)) (h3 : (Jvm.ClassFile.Reader.u1 : Jvm.ClassFile.Decoder Nat) c (pc + 2) = .ok (b, pc + 3)) (hv : Jvm.ClassFile.Reader.signed 16 (a * 256 + b) = v) : decode c pc = .ok (.goto v, 3) := by
  refine dec_of ?_
  unfold Jvm.ClassFile.Decoder.instr
  refine (bind_at h).trans ?_
  subst hv
  show Except.bind (Except.bind ((Jvm.ClassFile.Reader.u2 : Jvm.ClassFile.Decoder Nat) c (pc + 1)) _) _ = _
  rw [u2_at h2 h3]
  rfl
theorem dec_icmp_eq {c : ByteArray} {pc a b : Nat} {v : Int} (h : (Jvm.ClassFile.Reader.u1 : Jvm.ClassFile.Decoder Nat) c pc = .ok (159, pc + 1)) (h2 : (Jvm.ClassFile.Reader.u1 : Jvm.ClassFile.Decoder Nat) c (pc + 1) = .ok (a, pc + 2)) (h3 : (Jvm.ClassFile.Reader.u1 : Jvm.ClassFile.Decoder Nat) c (pc + 2) = .ok (b, pc + 3)) (hv : Jvm.ClassFile.Reader.signed 16 (a * 256 + b) = v) : decode c pc = .ok (.if_icmp .eq v, 3) := by
  refine dec_of ?_
  unfold Jvm.ClassFile.Decoder.instr
  refine (bind_at h).trans ?_
  subst hv
  show Except.bind (Except.bind ((Jvm.ClassFile.Reader.u2 : Jvm.ClassFile.Decoder Nat) c (pc + 1)) _) _ = _
  rw [u2_at h2 h3]
  rfl
theorem dec_icmp_ne {c : ByteArray} {pc a b : Nat} {v : Int} (h : (Jvm.ClassFile.Reader.u1 : Jvm.ClassFile.Decoder Nat) c pc = .ok (160, pc + 1)) (h2 : (Jvm.ClassFile.Reader.u1 : Jvm.ClassFile.Decoder Nat) c (pc + 1) = .ok (a, pc + 2)) (h3 : (Jvm.ClassFile.Reader.u1 : Jvm.ClassFile.Decoder Nat) c (pc + 2) = .ok (b, pc + 3)) (hv : Jvm.ClassFile.Reader.signed 16 (a * 256 + b) = v) : decode c pc = .ok (.if_icmp .ne v, 3) := by
  refine dec_of ?_
  unfold Jvm.ClassFile.Decoder.instr
  refine (bind_at h).trans ?_
  subst hv
  show Except.bind (Except.bind ((Jvm.ClassFile.Reader.u2 : Jvm.ClassFile.Decoder Nat) c (pc + 1)) _) _ = _
  rw [u2_at h2 h3]
  rfl
theorem dec_icmp_lt {c : ByteArray} {pc a b : Nat} {v : Int} (h : (Jvm.ClassFile.Reader.u1 : Jvm.ClassFile.Decoder Nat) c pc = .ok (161, pc + 1)) (h2 : (Jvm.ClassFile.Reader.u1 : Jvm.ClassFile.Decoder Nat) c (pc + 1) = .ok (a, pc + 2)) (h3 : (Jvm.ClassFile.Reader.u1 : Jvm.ClassFile.Decoder Nat) c (pc + 2) = .ok (b, pc + 3)) (hv : Jvm.ClassFile.Reader.signed 16 (a * 256 + b) = v) : decode c pc = .ok (.if_icmp .lt v, 3) := by
  refine dec_of ?_
  unfold Jvm.ClassFile.Decoder.instr
  refine (bind_at h).trans ?_
  subst hv
  show Except.bind (Except.bind ((Jvm.ClassFile.Reader.u2 : Jvm.ClassFile.Decoder Nat) c (pc + 1)) _) _ = _
  rw [u2_at h2 h3]
  rfl
theorem dec_icmp_ge {c : ByteArray} {pc a b : Nat} {v : Int} (h : (Jvm.ClassFile.Reader.u1 : Jvm.ClassFile.Decoder Nat) c pc = .ok (162, pc + 1)) (h2 : (Jvm.ClassFile.Reader.u1 : Jvm.ClassFile.Decoder Nat) c (pc + 1) = .ok (a, pc + 2)) (h3 : (Jvm.ClassFile.Reader.u1 : Jvm.ClassFile.Decoder Nat) c (pc + 2) = .ok (b, pc + 3)) (hv : Jvm.ClassFile.Reader.signed 16 (a * 256 + b) = v) : decode c pc = .ok (.if_icmp .ge v, 3) := by
  refine dec_of ?_
  unfold Jvm.ClassFile.Decoder.instr
  refine (bind_at h).trans ?_
  subst hv
  show Except.bind (Except.bind ((Jvm.ClassFile.Reader.u2 : Jvm.ClassFile.Decoder Nat) c (pc + 1)) _) _ = _
  rw [u2_at h2 h3]
  rfl
theorem dec_icmp_gt {c : ByteArray} {pc a b : Nat} {v : Int} (h : (Jvm.ClassFile.Reader.u1 : Jvm.ClassFile.Decoder Nat) c pc = .ok (163, pc + 1)) (h2 : (Jvm.ClassFile.Reader.u1 : Jvm.ClassFile.Decoder Nat) c (pc + 1) = .ok (a, pc + 2)) (h3 : (Jvm.ClassFile.Reader.u1 : Jvm.ClassFile.Decoder Nat) c (pc + 2) = .ok (b, pc + 3)) (hv : Jvm.ClassFile.Reader.signed 16 (a * 256 + b) = v) : decode c pc = .ok (.if_icmp .gt v, 3) := by
  refine dec_of ?_
  unfold Jvm.ClassFile.Decoder.instr
  refine (bind_at h).trans ?_
  subst hv
  show Except.bind (Except.bind ((Jvm.ClassFile.Reader.u2 : Jvm.ClassFile.Decoder Nat) c (pc + 1)) _) _ = _
  rw [u2_at h2 h3]
  rfl
theorem dec_icmp_le {c : ByteArray} {pc a b : Nat} {v : Int} (h : (Jvm.ClassFile.Reader.u1 : Jvm.ClassFile.Decoder Nat) c pc = .ok (164, pc + 1)) (h2 : (Jvm.ClassFile.Reader.u1 : Jvm.ClassFile.Decoder Nat) c (pc + 1) = .ok (a, pc + 2)) (h3 : (Jvm.ClassFile.Reader.u1 : Jvm.ClassFile.Decoder Nat) c (pc + 2) = .ok (b, pc + 3)) (hv : Jvm.ClassFile.Reader.signed 16 (a * 256 + b) = v) : decode c pc = .ok (.if_icmp .le v, 3) := by
  refine dec_of ?_
  unfold Jvm.ClassFile.Decoder.instr
  refine (bind_at h).trans ?_
  subst hv
  show Except.bind (Except.bind ((Jvm.ClassFile.Reader.u2 : Jvm.ClassFile.Decoder Nat) c (pc + 1)) _) _ = _
  rw [u2_at h2 h3]
  rfl
theorem dec_if_eq {c : ByteArray} {pc a b : Nat} {v : Int} (h : (Jvm.ClassFile.Reader.u1 : Jvm.ClassFile.Decoder Nat) c pc = .ok (153, pc + 1)) (h2 : (Jvm.ClassFile.Reader.u1 : Jvm.ClassFile.Decoder Nat) c (pc + 1) = .ok (a, pc + 2)) (h3 : (Jvm.ClassFile.Reader.u1 : Jvm.ClassFile.Decoder Nat) c (pc + 2) = .ok (b, pc + 3)) (hv : Jvm.ClassFile.Reader.signed 16 (a * 256 + b) = v) : decode c pc = .ok (.ifCond .eq v, 3) := by
  refine dec_of ?_
  unfold Jvm.ClassFile.Decoder.instr
  refine (bind_at h).trans ?_
  subst hv
  show Except.bind (Except.bind ((Jvm.ClassFile.Reader.u2 : Jvm.ClassFile.Decoder Nat) c (pc + 1)) _) _ = _
  rw [u2_at h2 h3]
  rfl
theorem dec_if_ne {c : ByteArray} {pc a b : Nat} {v : Int} (h : (Jvm.ClassFile.Reader.u1 : Jvm.ClassFile.Decoder Nat) c pc = .ok (154, pc + 1)) (h2 : (Jvm.ClassFile.Reader.u1 : Jvm.ClassFile.Decoder Nat) c (pc + 1) = .ok (a, pc + 2)) (h3 : (Jvm.ClassFile.Reader.u1 : Jvm.ClassFile.Decoder Nat) c (pc + 2) = .ok (b, pc + 3)) (hv : Jvm.ClassFile.Reader.signed 16 (a * 256 + b) = v) : decode c pc = .ok (.ifCond .ne v, 3) := by
  refine dec_of ?_
  unfold Jvm.ClassFile.Decoder.instr
  refine (bind_at h).trans ?_
  subst hv
  show Except.bind (Except.bind ((Jvm.ClassFile.Reader.u2 : Jvm.ClassFile.Decoder Nat) c (pc + 1)) _) _ = _
  rw [u2_at h2 h3]
  rfl
theorem dec_if_lt {c : ByteArray} {pc a b : Nat} {v : Int} (h : (Jvm.ClassFile.Reader.u1 : Jvm.ClassFile.Decoder Nat) c pc = .ok (155, pc + 1)) (h2 : (Jvm.ClassFile.Reader.u1 : Jvm.ClassFile.Decoder Nat) c (pc + 1) = .ok (a, pc + 2)) (h3 : (Jvm.ClassFile.Reader.u1 : Jvm.ClassFile.Decoder Nat) c (pc + 2) = .ok (b, pc + 3)) (hv : Jvm.ClassFile.Reader.signed 16 (a * 256 + b) = v) : decode c pc = .ok (.ifCond .lt v, 3) := by
  refine dec_of ?_
  unfold Jvm.ClassFile.Decoder.instr
  refine (bind_at h).trans ?_
  subst hv
  show Except.bind (Except.bind ((Jvm.ClassFile.Reader.u2 : Jvm.ClassFile.Decoder Nat) c (pc + 1)) _) _ = _
  rw [u2_at h2 h3]
  rfl
theorem dec_if_ge {c : ByteArray} {pc a b : Nat} {v : Int} (h : (Jvm.ClassFile.Reader.u1 : Jvm.ClassFile.Decoder Nat) c pc = .ok (156, pc + 1)) (h2 : (Jvm.ClassFile.Reader.u1 : Jvm.ClassFile.Decoder Nat) c (pc + 1) = .ok (a, pc + 2)) (h3 : (Jvm.ClassFile.Reader.u1 : Jvm.ClassFile.Decoder Nat) c (pc + 2) = .ok (b, pc + 3)) (hv : Jvm.ClassFile.Reader.signed 16 (a * 256 + b) = v) : decode c pc = .ok (.ifCond .ge v, 3) := by
  refine dec_of ?_
  unfold Jvm.ClassFile.Decoder.instr
  refine (bind_at h).trans ?_
  subst hv
  show Except.bind (Except.bind ((Jvm.ClassFile.Reader.u2 : Jvm.ClassFile.Decoder Nat) c (pc + 1)) _) _ = _
  rw [u2_at h2 h3]
  rfl
theorem dec_if_gt {c : ByteArray} {pc a b : Nat} {v : Int} (h : (Jvm.ClassFile.Reader.u1 : Jvm.ClassFile.Decoder Nat) c pc = .ok (157, pc + 1)) (h2 : (Jvm.ClassFile.Reader.u1 : Jvm.ClassFile.Decoder Nat) c (pc + 1) = .ok (a, pc + 2)) (h3 : (Jvm.ClassFile.Reader.u1 : Jvm.ClassFile.Decoder Nat) c (pc + 2) = .ok (b, pc + 3)) (hv : Jvm.ClassFile.Reader.signed 16 (a * 256 + b) = v) : decode c pc = .ok (.ifCond .gt v, 3) := by
  refine dec_of ?_
  unfold Jvm.ClassFile.Decoder.instr
  refine (bind_at h).trans ?_
  subst hv
  show Except.bind (Except.bind ((Jvm.ClassFile.Reader.u2 : Jvm.ClassFile.Decoder Nat) c (pc + 1)) _) _ = _
  rw [u2_at h2 h3]
  rfl
theorem dec_if_le {c : ByteArray} {pc a b : Nat} {v : Int} (h : (Jvm.ClassFile.Reader.u1 : Jvm.ClassFile.Decoder Nat) c pc = .ok (158, pc + 1)) (h2 : (Jvm.ClassFile.Reader.u1 : Jvm.ClassFile.Decoder Nat) c (pc + 1) = .ok (a, pc + 2)) (h3 : (Jvm.ClassFile.Reader.u1 : Jvm.ClassFile.Decoder Nat) c (pc + 2) = .ok (b, pc + 3)) (hv : Jvm.ClassFile.Reader.signed 16 (a * 256 + b) = v) : decode c pc = .ok (.ifCond .le v, 3) := by
  refine dec_of ?_
  unfold Jvm.ClassFile.Decoder.instr
  refine (bind_at h).trans ?_
  subst hv
  show Except.bind (Except.bind ((Jvm.ClassFile.Reader.u2 : Jvm.ClassFile.Decoder Nat) c (pc + 1)) _) _ = _
  rw [u2_at h2 h3]
  rfl
theorem dec_ifnull {c : ByteArray} {pc a b : Nat} {v : Int} (h : (Jvm.ClassFile.Reader.u1 : Jvm.ClassFile.Decoder Nat) c pc = .ok (198, pc + 1)) (h2 : (Jvm.ClassFile.Reader.u1 : Jvm.ClassFile.Decoder Nat) c (pc + 1) = .ok (a, pc + 2)) (h3 : (Jvm.ClassFile.Reader.u1 : Jvm.ClassFile.Decoder Nat) c (pc + 2) = .ok (b, pc + 3)) (hv : Jvm.ClassFile.Reader.signed 16 (a * 256 + b) = v) : decode c pc = .ok (.ifnull v, 3) := by
  refine dec_of ?_
  unfold Jvm.ClassFile.Decoder.instr
  refine (bind_at h).trans ?_
  subst hv
  show Except.bind (Except.bind ((Jvm.ClassFile.Reader.u2 : Jvm.ClassFile.Decoder Nat) c (pc + 1)) _) _ = _
  rw [u2_at h2 h3]
  rfl
theorem dec_ifnonnull {c : ByteArray} {pc a b : Nat} {v : Int} (h : (Jvm.ClassFile.Reader.u1 : Jvm.ClassFile.Decoder Nat) c pc = .ok (199, pc + 1)) (h2 : (Jvm.ClassFile.Reader.u1 : Jvm.ClassFile.Decoder Nat) c (pc + 1) = .ok (a, pc + 2)) (h3 : (Jvm.ClassFile.Reader.u1 : Jvm.ClassFile.Decoder Nat) c (pc + 2) = .ok (b, pc + 3)) (hv : Jvm.ClassFile.Reader.signed 16 (a * 256 + b) = v) : decode c pc = .ok (.ifnonnull v, 3) := by
  refine dec_of ?_
  unfold Jvm.ClassFile.Decoder.instr
  refine (bind_at h).trans ?_
  subst hv
  show Except.bind (Except.bind ((Jvm.ClassFile.Reader.u2 : Jvm.ClassFile.Decoder Nat) c (pc + 1)) _) _ = _
  rw [u2_at h2 h3]
  rfl
theorem dec_getstatic {c : ByteArray} {pc a b : Nat} {v : Nat} (h : (Jvm.ClassFile.Reader.u1 : Jvm.ClassFile.Decoder Nat) c pc = .ok (178, pc + 1)) (h2 : (Jvm.ClassFile.Reader.u1 : Jvm.ClassFile.Decoder Nat) c (pc + 1) = .ok (a, pc + 2)) (h3 : (Jvm.ClassFile.Reader.u1 : Jvm.ClassFile.Decoder Nat) c (pc + 2) = .ok (b, pc + 3)) (hv : a * 256 + b = v) : decode c pc = .ok (.getstatic v, 3) := by
  refine dec_of ?_
  unfold Jvm.ClassFile.Decoder.instr
  refine (bind_at h).trans ?_
  subst hv
  exact (bind_at (u2_at h2 h3)).trans rfl
theorem dec_checkcast {c : ByteArray} {pc a b : Nat} {v : Nat} (h : (Jvm.ClassFile.Reader.u1 : Jvm.ClassFile.Decoder Nat) c pc = .ok (192, pc + 1)) (h2 : (Jvm.ClassFile.Reader.u1 : Jvm.ClassFile.Decoder Nat) c (pc + 1) = .ok (a, pc + 2)) (h3 : (Jvm.ClassFile.Reader.u1 : Jvm.ClassFile.Decoder Nat) c (pc + 2) = .ok (b, pc + 3)) (hv : a * 256 + b = v) : decode c pc = .ok (.checkcast v, 3) := by
  refine dec_of ?_
  unfold Jvm.ClassFile.Decoder.instr
  refine (bind_at h).trans ?_
  subst hv
  exact (bind_at (u2_at h2 h3)).trans rfl
theorem dec_ldc_w {c : ByteArray} {pc a b : Nat} {v : Nat} (h : (Jvm.ClassFile.Reader.u1 : Jvm.ClassFile.Decoder Nat) c pc = .ok (19, pc + 1)) (h2 : (Jvm.ClassFile.Reader.u1 : Jvm.ClassFile.Decoder Nat) c (pc + 1) = .ok (a, pc + 2)) (h3 : (Jvm.ClassFile.Reader.u1 : Jvm.ClassFile.Decoder Nat) c (pc + 2) = .ok (b, pc + 3)) (hv : a * 256 + b = v) : decode c pc = .ok (.ldc_w v, 3) := by
  refine dec_of ?_
  unfold Jvm.ClassFile.Decoder.instr
  refine (bind_at h).trans ?_
  subst hv
  exact (bind_at (u2_at h2 h3)).trans rfl
theorem dec_ldc2_w {c : ByteArray} {pc a b : Nat} {v : Nat} (h : (Jvm.ClassFile.Reader.u1 : Jvm.ClassFile.Decoder Nat) c pc = .ok (20, pc + 1)) (h2 : (Jvm.ClassFile.Reader.u1 : Jvm.ClassFile.Decoder Nat) c (pc + 1) = .ok (a, pc + 2)) (h3 : (Jvm.ClassFile.Reader.u1 : Jvm.ClassFile.Decoder Nat) c (pc + 2) = .ok (b, pc + 3)) (hv : a * 256 + b = v) : decode c pc = .ok (.ldc2_w v, 3) := by
  refine dec_of ?_
  unfold Jvm.ClassFile.Decoder.instr
  refine (bind_at h).trans ?_
  subst hv
  exact (bind_at (u2_at h2 h3)).trans rfl
theorem dec_getfield {c : ByteArray} {pc a b : Nat} {v : Nat} (h : (Jvm.ClassFile.Reader.u1 : Jvm.ClassFile.Decoder Nat) c pc = .ok (180, pc + 1)) (h2 : (Jvm.ClassFile.Reader.u1 : Jvm.ClassFile.Decoder Nat) c (pc + 1) = .ok (a, pc + 2)) (h3 : (Jvm.ClassFile.Reader.u1 : Jvm.ClassFile.Decoder Nat) c (pc + 2) = .ok (b, pc + 3)) (hv : a * 256 + b = v) : decode c pc = .ok (.getfield v, 3) := by
  refine dec_of ?_
  unfold Jvm.ClassFile.Decoder.instr
  refine (bind_at h).trans ?_
  subst hv
  exact (bind_at (u2_at h2 h3)).trans rfl
theorem dec_putfield {c : ByteArray} {pc a b : Nat} {v : Nat} (h : (Jvm.ClassFile.Reader.u1 : Jvm.ClassFile.Decoder Nat) c pc = .ok (181, pc + 1)) (h2 : (Jvm.ClassFile.Reader.u1 : Jvm.ClassFile.Decoder Nat) c (pc + 1) = .ok (a, pc + 2)) (h3 : (Jvm.ClassFile.Reader.u1 : Jvm.ClassFile.Decoder Nat) c (pc + 2) = .ok (b, pc + 3)) (hv : a * 256 + b = v) : decode c pc = .ok (.putfield v, 3) := by
  refine dec_of ?_
  unfold Jvm.ClassFile.Decoder.instr
  refine (bind_at h).trans ?_
  subst hv
  exact (bind_at (u2_at h2 h3)).trans rfl
theorem dec_invokevirtual {c : ByteArray} {pc a b : Nat} {v : Nat} (h : (Jvm.ClassFile.Reader.u1 : Jvm.ClassFile.Decoder Nat) c pc = .ok (182, pc + 1)) (h2 : (Jvm.ClassFile.Reader.u1 : Jvm.ClassFile.Decoder Nat) c (pc + 1) = .ok (a, pc + 2)) (h3 : (Jvm.ClassFile.Reader.u1 : Jvm.ClassFile.Decoder Nat) c (pc + 2) = .ok (b, pc + 3)) (hv : a * 256 + b = v) : decode c pc = .ok (.invokevirtual v, 3) := by
  refine dec_of ?_
  unfold Jvm.ClassFile.Decoder.instr
  refine (bind_at h).trans ?_
  subst hv
  exact (bind_at (u2_at h2 h3)).trans rfl
theorem dec_invokespecial {c : ByteArray} {pc a b : Nat} {v : Nat} (h : (Jvm.ClassFile.Reader.u1 : Jvm.ClassFile.Decoder Nat) c pc = .ok (183, pc + 1)) (h2 : (Jvm.ClassFile.Reader.u1 : Jvm.ClassFile.Decoder Nat) c (pc + 1) = .ok (a, pc + 2)) (h3 : (Jvm.ClassFile.Reader.u1 : Jvm.ClassFile.Decoder Nat) c (pc + 2) = .ok (b, pc + 3)) (hv : a * 256 + b = v) : decode c pc = .ok (.invokespecial v, 3) := by
  refine dec_of ?_
  unfold Jvm.ClassFile.Decoder.instr
  refine (bind_at h).trans ?_
  subst hv
  exact (bind_at (u2_at h2 h3)).trans rfl
theorem dec_invokestatic {c : ByteArray} {pc a b : Nat} {v : Nat} (h : (Jvm.ClassFile.Reader.u1 : Jvm.ClassFile.Decoder Nat) c pc = .ok (184, pc + 1)) (h2 : (Jvm.ClassFile.Reader.u1 : Jvm.ClassFile.Decoder Nat) c (pc + 1) = .ok (a, pc + 2)) (h3 : (Jvm.ClassFile.Reader.u1 : Jvm.ClassFile.Decoder Nat) c (pc + 2) = .ok (b, pc + 3)) (hv : a * 256 + b = v) : decode c pc = .ok (.invokestatic v, 3) := by
  refine dec_of ?_
  unfold Jvm.ClassFile.Decoder.instr
  refine (bind_at h).trans ?_
  subst hv
  exact (bind_at (u2_at h2 h3)).trans rfl
theorem dec_new {c : ByteArray} {pc a b : Nat} {v : Nat} (h : (Jvm.ClassFile.Reader.u1 : Jvm.ClassFile.Decoder Nat) c pc = .ok (187, pc + 1)) (h2 : (Jvm.ClassFile.Reader.u1 : Jvm.ClassFile.Decoder Nat) c (pc + 1) = .ok (a, pc + 2)) (h3 : (Jvm.ClassFile.Reader.u1 : Jvm.ClassFile.Decoder Nat) c (pc + 2) = .ok (b, pc + 3)) (hv : a * 256 + b = v) : decode c pc = .ok (.new v, 3) := by
  refine dec_of ?_
  unfold Jvm.ClassFile.Decoder.instr
  refine (bind_at h).trans ?_
  subst hv
  exact (bind_at (u2_at h2 h3)).trans rfl
theorem dec_anewarray {c : ByteArray} {pc a b : Nat} {v : Nat} (h : (Jvm.ClassFile.Reader.u1 : Jvm.ClassFile.Decoder Nat) c pc = .ok (189, pc + 1)) (h2 : (Jvm.ClassFile.Reader.u1 : Jvm.ClassFile.Decoder Nat) c (pc + 1) = .ok (a, pc + 2)) (h3 : (Jvm.ClassFile.Reader.u1 : Jvm.ClassFile.Decoder Nat) c (pc + 2) = .ok (b, pc + 3)) (hv : a * 256 + b = v) : decode c pc = .ok (.anewarray v, 3) := by
  refine dec_of ?_
  unfold Jvm.ClassFile.Decoder.instr
  refine (bind_at h).trans ?_
  subst hv
  exact (bind_at (u2_at h2 h3)).trans rfl
theorem dec_newarray_byte {c : ByteArray} {pc : Nat} (h : (Jvm.ClassFile.Reader.u1 : Jvm.ClassFile.Decoder Nat) c pc = .ok (188, pc + 1)) (h2 : (Jvm.ClassFile.Reader.u1 : Jvm.ClassFile.Decoder Nat) c (pc + 1) = .ok (8, pc + 2)) : decode c pc = .ok (.newarray .byte, 2) := by
  refine dec_of ?_
  unfold Jvm.ClassFile.Decoder.instr
  refine (bind_at h).trans ?_
  exact (bind_at h2).trans rfl
theorem dec_newarray_int {c : ByteArray} {pc : Nat} (h : (Jvm.ClassFile.Reader.u1 : Jvm.ClassFile.Decoder Nat) c pc = .ok (188, pc + 1)) (h2 : (Jvm.ClassFile.Reader.u1 : Jvm.ClassFile.Decoder Nat) c (pc + 1) = .ok (10, pc + 2)) : decode c pc = .ok (.newarray .int, 2) := by
  refine dec_of ?_
  unfold Jvm.ClassFile.Decoder.instr
  refine (bind_at h).trans ?_
  exact (bind_at h2).trans rfl
theorem dec_newarray_long {c : ByteArray} {pc : Nat} (h : (Jvm.ClassFile.Reader.u1 : Jvm.ClassFile.Decoder Nat) c pc = .ok (188, pc + 1)) (h2 : (Jvm.ClassFile.Reader.u1 : Jvm.ClassFile.Decoder Nat) c (pc + 1) = .ok (11, pc + 2)) : decode c pc = .ok (.newarray .long, 2) := by
  refine dec_of ?_
  unfold Jvm.ClassFile.Decoder.instr
  refine (bind_at h).trans ?_
  exact (bind_at h2).trans rfl
theorem dec_newarray_boolean {c : ByteArray} {pc : Nat} (h : (Jvm.ClassFile.Reader.u1 : Jvm.ClassFile.Decoder Nat) c pc = .ok (188, pc + 1)) (h2 : (Jvm.ClassFile.Reader.u1 : Jvm.ClassFile.Decoder Nat) c (pc + 1) = .ok (4, pc + 2)) : decode c pc = .ok (.newarray .boolean, 2) := by
  refine dec_of ?_
  unfold Jvm.ClassFile.Decoder.instr
  refine (bind_at h).trans ?_
  exact (bind_at h2).trans rfl
theorem dec_iinc {c : ByteArray} {pc a b : Nat} {v : Int} (h : (Jvm.ClassFile.Reader.u1 : Jvm.ClassFile.Decoder Nat) c pc = .ok (132, pc + 1)) (h2 : (Jvm.ClassFile.Reader.u1 : Jvm.ClassFile.Decoder Nat) c (pc + 1) = .ok (a, pc + 2)) (h3 : (Jvm.ClassFile.Reader.u1 : Jvm.ClassFile.Decoder Nat) c (pc + 2) = .ok (b, pc + 3)) (hv : Jvm.ClassFile.Reader.signed 8 b = v) : decode c pc = .ok (.iinc a v, 3) := by
  refine dec_of ?_
  unfold Jvm.ClassFile.Decoder.instr
  refine (bind_at h).trans ?_
  refine (bind_at h2).trans ?_
  subst hv
  show Except.bind (Except.bind ((Jvm.ClassFile.Reader.u1 : Jvm.ClassFile.Decoder Nat) c (pc + 2)) _) _ = _
  rw [h3]
  rfl
theorem dec_mna {c : ByteArray} {pc a b v : Nat} (h : (Jvm.ClassFile.Reader.u1 : Jvm.ClassFile.Decoder Nat) c pc = .ok (197, pc + 1)) (h2 : (Jvm.ClassFile.Reader.u1 : Jvm.ClassFile.Decoder Nat) c (pc + 1) = .ok (a, pc + 2)) (h3 : (Jvm.ClassFile.Reader.u1 : Jvm.ClassFile.Decoder Nat) c (pc + 2) = .ok (b, pc + 3)) (h4 : (Jvm.ClassFile.Reader.u1 : Jvm.ClassFile.Decoder Nat) c (pc + 3) = .ok (2, pc + 4)) (hv : a * 256 + b = v) : decode c pc = .ok (.multianewarray v 2, 4) := by
  refine dec_of ?_
  unfold Jvm.ClassFile.Decoder.instr
  refine (bind_at h).trans ?_
  subst hv
  refine (bind_at (u2_at h2 h3)).trans ?_
  exact (bind_at h4).trans rfl
theorem by_at {c : ByteArray} {o i b : Nat} {N : List Nat} (h : ((c.data.toList.drop o).take 64).map UInt8.toNat = N) (hi : i < 64) (hb : N[i]? = some b) : (c.data.toList[o + i]?).map UInt8.toNat = some b := by
  rw [← h, List.getElem?_map, List.getElem?_take, if_pos hi, List.getElem?_drop] at hb
  exact hb
