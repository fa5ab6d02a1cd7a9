/-! WORDS: an instruction by its bytes -/
theorem u1_at {c : ByteArray} {p b : Nat} (h : (c.data.toList[p]?).map UInt8.toNat = some b) : (Jvm.ClassFile.Reader.u1 : Jvm.ClassFile.Decoder Nat) c p = .ok (b, p + 1) := by
  have hs : p < c.size := by
    rcases Nat.lt_or_ge p c.size with h1 | h1
    · exact h1
    · rw [List.getElem?_eq_none (show c.data.toList.length ≤ p from h1)] at h
      cases h
  have e : c[p].toNat = b := by
    rw [List.getElem?_eq_getElem (show p < c.data.toList.length from hs)] at h
    exact Option.some.inj h
  show (if h : p < c.size then _ else _ : Jvm.ClassFile.Decoder Nat) c p = _
  rw [dif_pos hs]
  show Except.ok (c[p].toNat, p + 1) = _
  rw [e]
theorem bind_at {α β : Type} {r : Jvm.ClassFile.Decoder α} {k : α → Jvm.ClassFile.Decoder β} {c : ByteArray} {p q : Nat} {x : α} (h : r c p = .ok (x, q)) : (r >>= k) c p = k x c q := by
  show Except.bind (r c p) (fun y => k y.1 c y.2) = _
  rw [h]
  rfl
theorem dec_of {c : ByteArray} {pc n : Nat} {i : Instr} (h : (Jvm.ClassFile.Decoder.instr pc) c pc = .ok (i, pc + n)) : decode c pc = .ok (i, n) := by
  unfold decode
  show Except.bind ((Jvm.ClassFile.Decoder.instr pc) c pc) _ = _
  rw [h]
  show Except.ok (i, pc + n - pc) = _
  rw [Nat.add_sub_cancel_left]
theorem u2_at {c : ByteArray} {p a b : Nat} (h : (Jvm.ClassFile.Reader.u1 : Jvm.ClassFile.Decoder Nat) c p = .ok (a, p + 1)) (h2 : (Jvm.ClassFile.Reader.u1 : Jvm.ClassFile.Decoder Nat) c (p + 1) = .ok (b, p + 2)) : (Jvm.ClassFile.Reader.u2 : Jvm.ClassFile.Decoder Nat) c p = .ok (a * 256 + b, p + 2) := by
  unfold Jvm.ClassFile.Reader.u2
  refine Eq.trans (bind_at h) ?_
  exact bind_at h2
theorem dec_1 {c : ByteArray} {pc b : Nat} {i : Instr} (h : (Jvm.ClassFile.Reader.u1 : Jvm.ClassFile.Decoder Nat) c pc = .ok (b, pc + 1)) (hk : ∀ (c : ByteArray) (pc q : Nat), (match b with
  | 89 => pure .dup
  | 79 => pure .iastore
  | _ => pure .nop : Jvm.ClassFile.Decoder Instr) c q = .ok (i, q)) : True := trivial
theorem dec_dup {c : ByteArray} {pc : Nat} (h : (Jvm.ClassFile.Reader.u1 : Jvm.ClassFile.Decoder Nat) c pc = .ok (89, pc + 1)) : decode c pc = .ok (.dup, 1) := by
  refine dec_of ?_
  unfold Jvm.ClassFile.Decoder.instr
  exact (bind_at h).trans rfl
theorem dec_bipush {c : ByteArray} {pc a : Nat} (h : (Jvm.ClassFile.Reader.u1 : Jvm.ClassFile.Decoder Nat) c pc = .ok (16, pc + 1)) (h2 : (Jvm.ClassFile.Reader.u1 : Jvm.ClassFile.Decoder Nat) c (pc + 1) = .ok (a, pc + 2)) : decode c pc = .ok (.bipush (Jvm.ClassFile.Reader.signed 8 a), 2) := by
  refine dec_of ?_
  unfold Jvm.ClassFile.Decoder.instr
  refine (bind_at h).trans ?_
  show (Instr.bipush <$> (Jvm.ClassFile.Reader.signed 8 <$> (Jvm.ClassFile.Reader.u1 : Jvm.ClassFile.Decoder Nat))) c (pc + 1) = _
  show Except.bind (Except.bind ((Jvm.ClassFile.Reader.u1 : Jvm.ClassFile.Decoder Nat) c (pc + 1)) _) _ = _
  rw [h2]
  rfl
