/-! WORDS: an instruction by its bytes -/
theorem u1_at {c : ByteArray} {p b : Nat} (h : (c.data.toList[p]?).map UInt8.toNat = some b) : (Jvm.ClassFile.Reader.u1 : Jvm.ClassFile.Decoder Nat) c p = .ok (b, p + 1) := by
  have hs : p < c.size := by
    rcases Nat.lt_or_ge p c.size with h1 | h1
    · exact h1
    · rw [List.getElem?_eq_none (show c.data.toList.length ≤ p from h1)] at h
      cases h
  have e : c[p].toNat = b := by
    rw [List.getElem?_eq_getElem (show p < c.data.toList.length from hs)] at h
    exact Option.some.inj h
  show (if h : p < c.size then _ else _ : Jvm.ClassFile.Decoder Nat) c p = _
  rw [dif_pos hs]
  show Except.ok (c[p].toNat, p + 1) = _
  rw [e]
theorem bind_at {α β : Type} {r : Jvm.ClassFile.Decoder α} {k : α → Jvm.ClassFile.Decoder β} {c : ByteArray} {p q : Nat} {x : α} (h : r c p = .ok (x, q)) : (r >>= k) c p = k x c q := by
  show Except.bind (r c p) (fun y => k y.1 c y.2) = _
  rw [h]
  rfl
theorem dec_of {c : ByteArray} {pc n : Nat} {i : Instr} (h : (Jvm.ClassFile.Decoder.instr pc) c pc = .ok (i, pc + n)) : decode c pc = .ok (i, n) := by
  unfold decode
  show Except.bind ((Jvm.ClassFile.Decoder.instr pc) c pc) _ = _
  rw [h]
  show Except.ok (i, pc + n - pc) = _
  rw [Nat.add_sub_cancel_left]
theorem u2_at {c : ByteArray} {p a b : Nat} (h : (Jvm.ClassFile.Reader.u1 : Jvm.ClassFile.Decoder Nat) c p = .ok (a, p + 1)) (h2 : (Jvm.ClassFile.Reader.u1 : Jvm.ClassFile.Decoder Nat) c (p + 1) = .ok (b, p + 2)) : (Jvm.ClassFile.Reader.u2 : Jvm.ClassFile.Decoder Nat) c p = .ok (a * 256 + b, p + 2) := by
  unfold Jvm.ClassFile.Reader.u2
  refine Eq.trans (bind_at h) ?_
  exact bind_at h2

theorem dec_dup {c : ByteArray} {pc : Nat} (h : (Jvm.ClassFile.Reader.u1 : Jvm.ClassFile.Decoder Nat) c pc = .ok (89, pc + 1)) : decode c pc = .ok (.dup, 1) := by
  refine dec_of ?_
  unfold Jvm.ClassFile.Decoder.instr
  exact (bind_at h).trans rfl
theorem dec_iastore {c : ByteArray} {pc : Nat} (h : (Jvm.ClassFile.Reader.u1 : Jvm.ClassFile.Decoder Nat) c pc = .ok (79, pc + 1)) : decode c pc = .ok (.iastore, 1) := by
  refine dec_of ?_
  unfold Jvm.ClassFile.Decoder.instr
  exact (bind_at h).trans rfl
theorem dec_bastore {c : ByteArray} {pc : Nat} (h : (Jvm.ClassFile.Reader.u1 : Jvm.ClassFile.Decoder Nat) c pc = .ok (84, pc + 1)) : decode c pc = .ok (.bastore, 1) := by
  refine dec_of ?_
  unfold Jvm.ClassFile.Decoder.instr
  exact (bind_at h).trans rfl
theorem dec_lastore {c : ByteArray} {pc : Nat} (h : (Jvm.ClassFile.Reader.u1 : Jvm.ClassFile.Decoder Nat) c pc = .ok (80, pc + 1)) : decode c pc = .ok (.lastore, 1) := by
  refine dec_of ?_
  unfold Jvm.ClassFile.Decoder.instr
  exact (bind_at h).trans rfl
theorem dec_pop {c : ByteArray} {pc : Nat} (h : (Jvm.ClassFile.Reader.u1 : Jvm.ClassFile.Decoder Nat) c pc = .ok (87, pc + 1)) : decode c pc = .ok (.pop, 1) := by
  refine dec_of ?_
  unfold Jvm.ClassFile.Decoder.instr
  exact (bind_at h).trans rfl
theorem dec_return_ {c : ByteArray} {pc : Nat} (h : (Jvm.ClassFile.Reader.u1 : Jvm.ClassFile.Decoder Nat) c pc = .ok (177, pc + 1)) : decode c pc = .ok (.return_, 1) := by
  refine dec_of ?_
  unfold Jvm.ClassFile.Decoder.instr
  exact (bind_at h).trans rfl
theorem dec_iconstm1 {c : ByteArray} {pc : Nat} (h : (Jvm.ClassFile.Reader.u1 : Jvm.ClassFile.Decoder Nat) c pc = .ok (2, pc + 1)) : decode c pc = .ok ((.iconst (-1)), 1) := by
  refine dec_of ?_
  unfold Jvm.ClassFile.Decoder.instr
  exact (bind_at h).trans rfl
theorem dec_iconst0 {c : ByteArray} {pc : Nat} (h : (Jvm.ClassFile.Reader.u1 : Jvm.ClassFile.Decoder Nat) c pc = .ok (3, pc + 1)) : decode c pc = .ok ((.iconst 0), 1) := by
  refine dec_of ?_
  unfold Jvm.ClassFile.Decoder.instr
  exact (bind_at h).trans rfl
theorem dec_iconst1 {c : ByteArray} {pc : Nat} (h : (Jvm.ClassFile.Reader.u1 : Jvm.ClassFile.Decoder Nat) c pc = .ok (4, pc + 1)) : decode c pc = .ok ((.iconst 1), 1) := by
  refine dec_of ?_
  unfold Jvm.ClassFile.Decoder.instr
  exact (bind_at h).trans rfl
theorem dec_iconst2 {c : ByteArray} {pc : Nat} (h : (Jvm.ClassFile.Reader.u1 : Jvm.ClassFile.Decoder Nat) c pc = .ok (5, pc + 1)) : decode c pc = .ok ((.iconst 2), 1) := by
  refine dec_of ?_
  unfold Jvm.ClassFile.Decoder.instr
  exact (bind_at h).trans rfl
theorem dec_iconst3 {c : ByteArray} {pc : Nat} (h : (Jvm.ClassFile.Reader.u1 : Jvm.ClassFile.Decoder Nat) c pc = .ok (6, pc + 1)) : decode c pc = .ok ((.iconst 3), 1) := by
  refine dec_of ?_
  unfold Jvm.ClassFile.Decoder.instr
  exact (bind_at h).trans rfl
theorem dec_iconst4 {c : ByteArray} {pc : Nat} (h : (Jvm.ClassFile.Reader.u1 : Jvm.ClassFile.Decoder Nat) c pc = .ok (7, pc + 1)) : decode c pc = .ok ((.iconst 4), 1) := by
  refine dec_of ?_
  unfold Jvm.ClassFile.Decoder.instr
  exact (bind_at h).trans rfl
theorem dec_iconst5 {c : ByteArray} {pc : Nat} (h : (Jvm.ClassFile.Reader.u1 : Jvm.ClassFile.Decoder Nat) c pc = .ok (8, pc + 1)) : decode c pc = .ok ((.iconst 5), 1) := by
  refine dec_of ?_
  unfold Jvm.ClassFile.Decoder.instr
  exact (bind_at h).trans rfl
theorem dec_aload0 {c : ByteArray} {pc : Nat} (h : (Jvm.ClassFile.Reader.u1 : Jvm.ClassFile.Decoder Nat) c pc = .ok (42, pc + 1)) : decode c pc = .ok ((.aload_n 0), 1) := by
  refine dec_of ?_
  unfold Jvm.ClassFile.Decoder.instr
  exact (bind_at h).trans rfl
theorem dec_iload0 {c : ByteArray} {pc : Nat} (h : (Jvm.ClassFile.Reader.u1 : Jvm.ClassFile.Decoder Nat) c pc = .ok (26, pc + 1)) : decode c pc = .ok ((.iload_n 0), 1) := by
  refine dec_of ?_
  unfold Jvm.ClassFile.Decoder.instr
  exact (bind_at h).trans rfl
theorem dec_istore0 {c : ByteArray} {pc : Nat} (h : (Jvm.ClassFile.Reader.u1 : Jvm.ClassFile.Decoder Nat) c pc = .ok (59, pc + 1)) : decode c pc = .ok ((.istore_n 0), 1) := by
  refine dec_of ?_
  unfold Jvm.ClassFile.Decoder.instr
  exact (bind_at h).trans rfl
theorem dec_astore0 {c : ByteArray} {pc : Nat} (h : (Jvm.ClassFile.Reader.u1 : Jvm.ClassFile.Decoder Nat) c pc = .ok (75, pc + 1)) : decode c pc = .ok ((.astore_n 0), 1) := by
  refine dec_of ?_
  unfold Jvm.ClassFile.Decoder.instr
  exact (bind_at h).trans rfl
theorem dec_aload1 {c : ByteArray} {pc : Nat} (h : (Jvm.ClassFile.Reader.u1 : Jvm.ClassFile.Decoder Nat) c pc = .ok (43, pc + 1)) : decode c pc = .ok ((.aload_n 1), 1) := by
  refine dec_of ?_
  unfold Jvm.ClassFile.Decoder.instr
  exact (bind_at h).trans rfl
theorem dec_iload1 {c : ByteArray} {pc : Nat} (h : (Jvm.ClassFile.Reader.u1 : Jvm.ClassFile.Decoder Nat) c pc = .ok (27, pc + 1)) : decode c pc = .ok ((.iload_n 1), 1) := by
  refine dec_of ?_
  unfold Jvm.ClassFile.Decoder.instr
  exact (bind_at h).trans rfl
theorem dec_istore1 {c : ByteArray} {pc : Nat} (h : (Jvm.ClassFile.Reader.u1 : Jvm.ClassFile.Decoder Nat) c pc = .ok (60, pc + 1)) : decode c pc = .ok ((.istore_n 1), 1) := by
  refine dec_of ?_
  unfold Jvm.ClassFile.Decoder.instr
  exact (bind_at h).trans rfl
theorem dec_astore1 {c : ByteArray} {pc : Nat} (h : (Jvm.ClassFile.Reader.u1 : Jvm.ClassFile.Decoder Nat) c pc = .ok (76, pc + 1)) : decode c pc = .ok ((.astore_n 1), 1) := by
  refine dec_of ?_
  unfold Jvm.ClassFile.Decoder.instr
  exact (bind_at h).trans rfl
theorem dec_aload2 {c : ByteArray} {pc : Nat} (h : (Jvm.ClassFile.Reader.u1 : Jvm.ClassFile.Decoder Nat) c pc = .ok (44, pc + 1)) : decode c pc = .ok ((.aload_n 2), 1) := by
  refine dec_of ?_
  unfold Jvm.ClassFile.Decoder.instr
  exact (bind_at h).trans rfl
theorem dec_iload2 {c : ByteArray} {pc : Nat} (h : (Jvm.ClassFile.Reader.u1 : Jvm.ClassFile.Decoder Nat) c pc = .ok (28, pc + 1)) : decode c pc = .ok ((.iload_n 2), 1) := by
  refine dec_of ?_
  unfold Jvm.ClassFile.Decoder.instr
  exact (bind_at h).trans rfl
theorem dec_istore2 {c : ByteArray} {pc : Nat} (h : (Jvm.ClassFile.Reader.u1 : Jvm.ClassFile.Decoder Nat) c pc = .ok (61, pc + 1)) : decode c pc = .ok ((.istore_n 2), 1) := by
  refine dec_of ?_
  unfold Jvm.ClassFile.Decoder.instr
  exact (bind_at h).trans rfl
theorem dec_astore2 {c : ByteArray} {pc : Nat} (h : (Jvm.ClassFile.Reader.u1 : Jvm.ClassFile.Decoder Nat) c pc = .ok (77, pc + 1)) : decode c pc = .ok ((.astore_n 2), 1) := by
  refine dec_of ?_
  unfold Jvm.ClassFile.Decoder.instr
  exact (bind_at h).trans rfl
theorem dec_aload3 {c : ByteArray} {pc : Nat} (h : (Jvm.ClassFile.Reader.u1 : Jvm.ClassFile.Decoder Nat) c pc = .ok (45, pc + 1)) : decode c pc = .ok ((.aload_n 3), 1) := by
  refine dec_of ?_
  unfold Jvm.ClassFile.Decoder.instr
  exact (bind_at h).trans rfl
theorem dec_iload3 {c : ByteArray} {pc : Nat} (h : (Jvm.ClassFile.Reader.u1 : Jvm.ClassFile.Decoder Nat) c pc = .ok (29, pc + 1)) : decode c pc = .ok ((.iload_n 3), 1) := by
  refine dec_of ?_
  unfold Jvm.ClassFile.Decoder.instr
  exact (bind_at h).trans rfl
theorem dec_istore3 {c : ByteArray} {pc : Nat} (h : (Jvm.ClassFile.Reader.u1 : Jvm.ClassFile.Decoder Nat) c pc = .ok (62, pc + 1)) : decode c pc = .ok ((.istore_n 3), 1) := by
  refine dec_of ?_
  unfold Jvm.ClassFile.Decoder.instr
  exact (bind_at h).trans rfl
theorem dec_astore3 {c : ByteArray} {pc : Nat} (h : (Jvm.ClassFile.Reader.u1 : Jvm.ClassFile.Decoder Nat) c pc = .ok (78, pc + 1)) : decode c pc = .ok ((.astore_n 3), 1) := by
  refine dec_of ?_
  unfold Jvm.ClassFile.Decoder.instr
  exact (bind_at h).trans rfl
theorem dec_lconst0 {c : ByteArray} {pc : Nat} (h : (Jvm.ClassFile.Reader.u1 : Jvm.ClassFile.Decoder Nat) c pc = .ok (9, pc + 1)) : decode c pc = .ok ((.lconst 0), 1) := by
  refine dec_of ?_
  unfold Jvm.ClassFile.Decoder.instr
  exact (bind_at h).trans rfl
theorem dec_lconst1 {c : ByteArray} {pc : Nat} (h : (Jvm.ClassFile.Reader.u1 : Jvm.ClassFile.Decoder Nat) c pc = .ok (10, pc + 1)) : decode c pc = .ok ((.lconst 1), 1) := by
  refine dec_of ?_
  unfold Jvm.ClassFile.Decoder.instr
  exact (bind_at h).trans rfl
theorem dec_bipush {c : ByteArray} {pc a : Nat} {v : Int} (h : (Jvm.ClassFile.Reader.u1 : Jvm.ClassFile.Decoder Nat) c pc = .ok (16, pc + 1)) (h2 : (Jvm.ClassFile.Reader.u1 : Jvm.ClassFile.Decoder Nat) c (pc + 1) = .ok (a, pc + 2)) (hv : Jvm.ClassFile.Reader.signed 8 a = v) : decode c pc = .ok (.bipush v, 2) := by
  refine dec_of ?_
  unfold Jvm.ClassFile.Decoder.instr
  refine (bind_at h).trans ?_
  subst hv
  show Except.bind (Except.bind ((Jvm.ClassFile.Reader.u1 : Jvm.ClassFile.Decoder Nat) c (pc + 1)) _) _ = _
  rw [h2]
  rfl
theorem dec_iload {c : ByteArray} {pc a : Nat} (h : (Jvm.ClassFile.Reader.u1 : Jvm.ClassFile.Decoder Nat) c pc = .ok (21, pc + 1)) (h2 : (Jvm.ClassFile.Reader.u1 : Jvm.ClassFile.Decoder Nat) c (pc + 1) = .ok (a, pc + 2)) : decode c pc = .ok (.iload a, 2) := by
  refine dec_of ?_
  unfold Jvm.ClassFile.Decoder.instr
  refine (bind_at h).trans ?_
  exact (bind_at h2).trans rfl
theorem dec_istore {c : ByteArray} {pc a : Nat} (h : (Jvm.ClassFile.Reader.u1 : Jvm.ClassFile.Decoder Nat) c pc = .ok (54, pc + 1)) (h2 : (Jvm.ClassFile.Reader.u1 : Jvm.ClassFile.Decoder Nat) c (pc + 1) = .ok (a, pc + 2)) : decode c pc = .ok (.istore a, 2) := by
  refine dec_of ?_
  unfold Jvm.ClassFile.Decoder.instr
  refine (bind_at h).trans ?_
  exact (bind_at h2).trans rfl
theorem dec_astore {c : ByteArray} {pc a : Nat} (h : (Jvm.ClassFile.Reader.u1 : Jvm.ClassFile.Decoder Nat) c pc = .ok (58, pc + 1)) (h2 : (Jvm.ClassFile.Reader.u1 : Jvm.ClassFile.Decoder Nat) c (pc + 1) = .ok (a, pc + 2)) : decode c pc = .ok (.astore a, 2) := by
  refine dec_of ?_
  unfold Jvm.ClassFile.Decoder.instr
  refine (bind_at h).trans ?_
  exact (bind_at h2).trans rfl
theorem dec_aload {c : ByteArray} {pc a : Nat} (h : (Jvm.ClassFile.Reader.u1 : Jvm.ClassFile.Decoder Nat) c pc = .ok (25, pc + 1)) (h2 : (Jvm.ClassFile.Reader.u1 : Jvm.ClassFile.Decoder Nat) c (pc + 1) = .ok (a, pc + 2)) : decode c pc = .ok (.aload a, 2) := by
  refine dec_of ?_
  unfold Jvm.ClassFile.Decoder.instr
  refine (bind_at h).trans ?_
  exact (bind_at h2).trans rfl
theorem dec_sipush {c : ByteArray} {pc a b : Nat} {v : Int} (h : (Jvm.ClassFile.Reader.u1 : Jvm.ClassFile.Decoder Nat) c pc = .ok (17, pc + 1)) (h2 : (Jvm.ClassFile.Reader.u1 : Jvm.ClassFile.Decoder Nat) c (pc + 1) = .ok (a, pc + 2)) (h3 : (Jvm.ClassFile.Reader.u1 : Jvm.ClassFile.Decoder Nat) c (pc + 2) = .ok (b, pc + 3)) (hv : Jvm.ClassFile.Reader.signed 16 (a * 256 + b) = v) : decode c pc = .ok (.sipush v, 3) := by
  refine dec_of ?_
  unfold Jvm.ClassFile.Decoder.instr
  refine (bind_at h).trans ?_
  subst hv
  show Except.bind (Except.bind ((Jvm.ClassFile.Reader.u2 : Jvm.ClassFile.Decoder Nat) c (pc + 1)) _) _ = _
  rw [u2_at h2 h3]
  rfl
theorem dec_goto {c : ByteArray} {pc a b : Nat} {v : Int} (h : (Jvm.ClassFile.Reader.u1 : Jvm.ClassFile.Decoder Nat) c pc = .ok (167, pc + 1)) (h2 : (Jvm.ClassFile.Reader.u1 : Jvm.ClassFile.Decoder Nat) c (pc + 1) = .ok (a, pc + 2)) (h3 : (Jvm.ClassFile.Reader.u1 : Jvm.ClassFile.Decoder Nat) c (pc + 2) = .ok (b, pc + 3)) (hv : Jvm.ClassFile.Reader.signed 16 (a * 256 + b) = v) : decode c pc = .ok (.goto v, 3) := by
  refine dec_of ?_
  unfold Jvm.ClassFile.Decoder.instr
  refine (bind_at h).trans ?_
  subst hv
  show Except.bind (Except.bind ((Jvm.ClassFile.Reader.u2 : Jvm.ClassFile.Decoder Nat) c (pc + 1)) _) _ = _
  rw [u2_at h2 h3]
  rfl
theorem dec_icmp_ge {c : ByteArray} {pc a b : Nat} {v : Int} (h : (Jvm.ClassFile.Reader.u1 : Jvm.ClassFile.Decoder Nat) c pc = .ok (162, pc + 1)) (h2 : (Jvm.ClassFile.Reader.u1 : Jvm.ClassFile.Decoder Nat) c (pc + 1) = .ok (a, pc + 2)) (h3 : (Jvm.ClassFile.Reader.u1 : Jvm.ClassFile.Decoder Nat) c (pc + 2) = .ok (b, pc + 3)) (hv : Jvm.ClassFile.Reader.signed 16 (a * 256 + b) = v) : decode c pc = .ok (.if_icmp .ge v, 3) := by
  refine dec_of ?_
  unfold Jvm.ClassFile.Decoder.instr
  refine (bind_at h).trans ?_
  subst hv
  show Except.bind (Except.bind ((Jvm.ClassFile.Reader.u2 : Jvm.ClassFile.Decoder Nat) c (pc + 1)) _) _ = _
  rw [u2_at h2 h3]
  rfl
theorem dec_if_ne {c : ByteArray} {pc a b : Nat} {v : Int} (h : (Jvm.ClassFile.Reader.u1 : Jvm.ClassFile.Decoder Nat) c pc = .ok (154, pc + 1)) (h2 : (Jvm.ClassFile.Reader.u1 : Jvm.ClassFile.Decoder Nat) c (pc + 1) = .ok (a, pc + 2)) (h3 : (Jvm.ClassFile.Reader.u1 : Jvm.ClassFile.Decoder Nat) c (pc + 2) = .ok (b, pc + 3)) (hv : Jvm.ClassFile.Reader.signed 16 (a * 256 + b) = v) : decode c pc = .ok (.ifCond .ne v, 3) := by
  refine dec_of ?_
  unfold Jvm.ClassFile.Decoder.instr
  refine (bind_at h).trans ?_
  subst hv
  show Except.bind (Except.bind ((Jvm.ClassFile.Reader.u2 : Jvm.ClassFile.Decoder Nat) c (pc + 1)) _) _ = _
  rw [u2_at h2 h3]
  rfl
theorem dec_ldc_w {c : ByteArray} {pc a b : Nat} {v : Nat} (h : (Jvm.ClassFile.Reader.u1 : Jvm.ClassFile.Decoder Nat) c pc = .ok (19, pc + 1)) (h2 : (Jvm.ClassFile.Reader.u1 : Jvm.ClassFile.Decoder Nat) c (pc + 1) = .ok (a, pc + 2)) (h3 : (Jvm.ClassFile.Reader.u1 : Jvm.ClassFile.Decoder Nat) c (pc + 2) = .ok (b, pc + 3)) (hv : a * 256 + b = v) : decode c pc = .ok (.ldc_w v, 3) := by
  refine dec_of ?_
  unfold Jvm.ClassFile.Decoder.instr
  refine (bind_at h).trans ?_
  subst hv
  exact (bind_at (u2_at h2 h3)).trans rfl
theorem dec_ldc2_w {c : ByteArray} {pc a b : Nat} {v : Nat} (h : (Jvm.ClassFile.Reader.u1 : Jvm.ClassFile.Decoder Nat) c pc = .ok (20, pc + 1)) (h2 : (Jvm.ClassFile.Reader.u1 : Jvm.ClassFile.Decoder Nat) c (pc + 1) = .ok (a, pc + 2)) (h3 : (Jvm.ClassFile.Reader.u1 : Jvm.ClassFile.Decoder Nat) c (pc + 2) = .ok (b, pc + 3)) (hv : a * 256 + b = v) : decode c pc = .ok (.ldc2_w v, 3) := by
  refine dec_of ?_
  unfold Jvm.ClassFile.Decoder.instr
  refine (bind_at h).trans ?_
  subst hv
  exact (bind_at (u2_at h2 h3)).trans rfl
theorem dec_getfield {c : ByteArray} {pc a b : Nat} {v : Nat} (h : (Jvm.ClassFile.Reader.u1 : Jvm.ClassFile.Decoder Nat) c pc = .ok (180, pc + 1)) (h2 : (Jvm.ClassFile.Reader.u1 : Jvm.ClassFile.Decoder Nat) c (pc + 1) = .ok (a, pc + 2)) (h3 : (Jvm.ClassFile.Reader.u1 : Jvm.ClassFile.Decoder Nat) c (pc + 2) = .ok (b, pc + 3)) (hv : a * 256 + b = v) : decode c pc = .ok (.getfield v, 3) := by
  refine dec_of ?_
  unfold Jvm.ClassFile.Decoder.instr
  refine (bind_at h).trans ?_
  subst hv
  exact (bind_at (u2_at h2 h3)).trans rfl
theorem dec_putfield {c : ByteArray} {pc a b : Nat} {v : Nat} (h : (Jvm.ClassFile.Reader.u1 : Jvm.ClassFile.Decoder Nat) c pc = .ok (181, pc + 1)) (h2 : (Jvm.ClassFile.Reader.u1 : Jvm.ClassFile.Decoder Nat) c (pc + 1) = .ok (a, pc + 2)) (h3 : (Jvm.ClassFile.Reader.u1 : Jvm.ClassFile.Decoder Nat) c (pc + 2) = .ok (b, pc + 3)) (hv : a * 256 + b = v) : decode c pc = .ok (.putfield v, 3) := by
  refine dec_of ?_
  unfold Jvm.ClassFile.Decoder.instr
  refine (bind_at h).trans ?_
  subst hv
  exact (bind_at (u2_at h2 h3)).trans rfl
theorem dec_invokevirtual {c : ByteArray} {pc a b : Nat} {v : Nat} (h : (Jvm.ClassFile.Reader.u1 : Jvm.ClassFile.Decoder Nat) c pc = .ok (182, pc + 1)) (h2 : (Jvm.ClassFile.Reader.u1 : Jvm.ClassFile.Decoder Nat) c (pc + 1) = .ok (a, pc + 2)) (h3 : (Jvm.ClassFile.Reader.u1 : Jvm.ClassFile.Decoder Nat) c (pc + 2) = .ok (b, pc + 3)) (hv : a * 256 + b = v) : decode c pc = .ok (.invokevirtual v, 3) := by
  refine dec_of ?_
  unfold Jvm.ClassFile.Decoder.instr
  refine (bind_at h).trans ?_
  subst hv
  exact (bind_at (u2_at h2 h3)).trans rfl
theorem dec_invokespecial {c : ByteArray} {pc a b : Nat} {v : Nat} (h : (Jvm.ClassFile.Reader.u1 : Jvm.ClassFile.Decoder Nat) c pc = .ok (183, pc + 1)) (h2 : (Jvm.ClassFile.Reader.u1 : Jvm.ClassFile.Decoder Nat) c (pc + 1) = .ok (a, pc + 2)) (h3 : (Jvm.ClassFile.Reader.u1 : Jvm.ClassFile.Decoder Nat) c (pc + 2) = .ok (b, pc + 3)) (hv : a * 256 + b = v) : decode c pc = .ok (.invokespecial v, 3) := by
  refine dec_of ?_
  unfold Jvm.ClassFile.Decoder.instr
  refine (bind_at h).trans ?_
  subst hv
  exact (bind_at (u2_at h2 h3)).trans rfl
theorem dec_invokestatic {c : ByteArray} {pc a b : Nat} {v : Nat} (h : (Jvm.ClassFile.Reader.u1 : Jvm.ClassFile.Decoder Nat) c pc = .ok (184, pc + 1)) (h2 : (Jvm.ClassFile.Reader.u1 : Jvm.ClassFile.Decoder Nat) c (pc + 1) = .ok (a, pc + 2)) (h3 : (Jvm.ClassFile.Reader.u1 : Jvm.ClassFile.Decoder Nat) c (pc + 2) = .ok (b, pc + 3)) (hv : a * 256 + b = v) : decode c pc = .ok (.invokestatic v, 3) := by
  refine dec_of ?_
  unfold Jvm.ClassFile.Decoder.instr
  refine (bind_at h).trans ?_
  subst hv
  exact (bind_at (u2_at h2 h3)).trans rfl
theorem dec_new {c : ByteArray} {pc a b : Nat} {v : Nat} (h : (Jvm.ClassFile.Reader.u1 : Jvm.ClassFile.Decoder Nat) c pc = .ok (187, pc + 1)) (h2 : (Jvm.ClassFile.Reader.u1 : Jvm.ClassFile.Decoder Nat) c (pc + 1) = .ok (a, pc + 2)) (h3 : (Jvm.ClassFile.Reader.u1 : Jvm.ClassFile.Decoder Nat) c (pc + 2) = .ok (b, pc + 3)) (hv : a * 256 + b = v) : decode c pc = .ok (.new v, 3) := by
  refine dec_of ?_
  unfold Jvm.ClassFile.Decoder.instr
  refine (bind_at h).trans ?_
  subst hv
  exact (bind_at (u2_at h2 h3)).trans rfl
theorem dec_anewarray {c : ByteArray} {pc a b : Nat} {v : Nat} (h : (Jvm.ClassFile.Reader.u1 : Jvm.ClassFile.Decoder Nat) c pc = .ok (189, pc + 1)) (h2 : (Jvm.ClassFile.Reader.u1 : Jvm.ClassFile.Decoder Nat) c (pc + 1) = .ok (a, pc + 2)) (h3 : (Jvm.ClassFile.Reader.u1 : Jvm.ClassFile.Decoder Nat) c (pc + 2) = .ok (b, pc + 3)) (hv : a * 256 + b = v) : decode c pc = .ok (.anewarray v, 3) := by
  refine dec_of ?_
  unfold Jvm.ClassFile.Decoder.instr
  refine (bind_at h).trans ?_
  subst hv
  exact (bind_at (u2_at h2 h3)).trans rfl
theorem dec_newarray_byte {c : ByteArray} {pc : Nat} (h : (Jvm.ClassFile.Reader.u1 : Jvm.ClassFile.Decoder Nat) c pc = .ok (188, pc + 1)) (h2 : (Jvm.ClassFile.Reader.u1 : Jvm.ClassFile.Decoder Nat) c (pc + 1) = .ok (8, pc + 2)) : decode c pc = .ok (.newarray .byte, 2) := by
  refine dec_of ?_
  unfold Jvm.ClassFile.Decoder.instr
  refine (bind_at h).trans ?_
  exact (bind_at h2).trans rfl
theorem dec_newarray_int {c : ByteArray} {pc : Nat} (h : (Jvm.ClassFile.Reader.u1 : Jvm.ClassFile.Decoder Nat) c pc = .ok (188, pc + 1)) (h2 : (Jvm.ClassFile.Reader.u1 : Jvm.ClassFile.Decoder Nat) c (pc + 1) = .ok (10, pc + 2)) : decode c pc = .ok (.newarray .int, 2) := by
  refine dec_of ?_
  unfold Jvm.ClassFile.Decoder.instr
  refine (bind_at h).trans ?_
  exact (bind_at h2).trans rfl
theorem dec_newarray_long {c : ByteArray} {pc : Nat} (h : (Jvm.ClassFile.Reader.u1 : Jvm.ClassFile.Decoder Nat) c pc = .ok (188, pc + 1)) (h2 : (Jvm.ClassFile.Reader.u1 : Jvm.ClassFile.Decoder Nat) c (pc + 1) = .ok (11, pc + 2)) : decode c pc = .ok (.newarray .long, 2) := by
  refine dec_of ?_
  unfold Jvm.ClassFile.Decoder.instr
  refine (bind_at h).trans ?_
  exact (bind_at h2).trans rfl
theorem dec_newarray_boolean {c : ByteArray} {pc : Nat} (h : (Jvm.ClassFile.Reader.u1 : Jvm.ClassFile.Decoder Nat) c pc = .ok (188, pc + 1)) (h2 : (Jvm.ClassFile.Reader.u1 : Jvm.ClassFile.Decoder Nat) c (pc + 1) = .ok (4, pc + 2)) : decode c pc = .ok (.newarray .boolean, 2) := by
  refine dec_of ?_
  unfold Jvm.ClassFile.Decoder.instr
  refine (bind_at h).trans ?_
  exact (bind_at h2).trans rfl
theorem dec_iinc {c : ByteArray} {pc a b : Nat} {v : Int} (h : (Jvm.ClassFile.Reader.u1 : Jvm.ClassFile.Decoder Nat) c pc = .ok (132, pc + 1)) (h2 : (Jvm.ClassFile.Reader.u1 : Jvm.ClassFile.Decoder Nat) c (pc + 1) = .ok (a, pc + 2)) (h3 : (Jvm.ClassFile.Reader.u1 : Jvm.ClassFile.Decoder Nat) c (pc + 2) = .ok (b, pc + 3)) (hv : Jvm.ClassFile.Reader.signed 8 b = v) : decode c pc = .ok (.iinc a v, 3) := by
  refine dec_of ?_
  unfold Jvm.ClassFile.Decoder.instr
  refine (bind_at h).trans ?_
  refine (bind_at h2).trans ?_
  subst hv
  show Except.bind (Except.bind ((Jvm.ClassFile.Reader.u1 : Jvm.ClassFile.Decoder Nat) c (pc + 2)) _) _ = _
  rw [h3]
  rfl
theorem dec_mna {c : ByteArray} {pc a b v : Nat} (h : (Jvm.ClassFile.Reader.u1 : Jvm.ClassFile.Decoder Nat) c pc = .ok (197, pc + 1)) (h2 : (Jvm.ClassFile.Reader.u1 : Jvm.ClassFile.Decoder Nat) c (pc + 1) = .ok (a, pc + 2)) (h3 : (Jvm.ClassFile.Reader.u1 : Jvm.ClassFile.Decoder Nat) c (pc + 2) = .ok (b, pc + 3)) (h4 : (Jvm.ClassFile.Reader.u1 : Jvm.ClassFile.Decoder Nat) c (pc + 3) = .ok (2, pc + 4)) (hv : a * 256 + b = v) : decode c pc = .ok (.multianewarray v 2, 4) := by
  refine dec_of ?_
  unfold Jvm.ClassFile.Decoder.instr
  refine (bind_at h).trans ?_
  subst hv
  refine (bind_at (u2_at h2 h3)).trans ?_
  exact (bind_at h4).trans rfl
theorem by_at {c : ByteArray} {o i b : Nat} {N : List Nat} (h : ((c.data.toList.drop o).take 64).map UInt8.toNat = N) (hi : i < 64) (hb : N[i]? = some b) : (c.data.toList[o + i]?).map UInt8.toNat = some b := by
  rw [← h, List.getElem?_map, List.getElem?_take, if_pos hi, List.getElem?_drop] at hb
  exact hb
