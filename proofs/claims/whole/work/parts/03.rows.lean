/-! ROWS WITHOUT HEAP: an instruction a row; pc' is the next place, a numeral -/
section KsR
variable {l : Launch} {G : ks_G} {M : ks_M} {d pc : Nat} {lv : List (Nat × Value)} {st : List Value} {S : ks_S} {P : Option Value → ks_S → Prop}
theorem ks_iconst {pc' : Nat} {n : Int} {x : Int32} (hd : decode M.2.1 pc = .ok (.iconst n, 1)) (hv : Int32.ofInt n = x) (hp : pc + 1 = pc') (k : ks_X l G M d pc' lv (.int x :: st) S P) : ks_X l G M d pc lv (st) S P := by
  subst hp
  exact ks_pure (fun p e R s m args below meth c H locs cells slots ls Q C hl k => lv_iconst C.1 C.2.1 hd hv k) k
theorem ks_bipush {pc' : Nat} {n : Int} {x : Int32} (hd : decode M.2.1 pc = .ok (.bipush n, 2)) (hv : (Int8.ofInt n).toInt32 = x) (hp : pc + 2 = pc') (k : ks_X l G M d pc' lv (.int x :: st) S P) : ks_X l G M d pc lv (st) S P := by
  subst hp
  exact ks_pure (fun p e R s m args below meth c H locs cells slots ls Q C hl k => lv_bipush C.1 C.2.1 hd hv k) k
theorem ks_sipush {pc' : Nat} {n : Int} {x : Int32} (hd : decode M.2.1 pc = .ok (.sipush n, 3)) (hv : (Int16.ofInt n).toInt32 = x) (hp : pc + 3 = pc') (k : ks_X l G M d pc' lv (.int x :: st) S P) : ks_X l G M d pc lv (st) S P := by
  subst hp
  exact ks_pure (fun p e R s m args below meth c H locs cells slots ls Q C hl k => lv_sipush C.1 C.2.1 hd hv k) k
theorem ks_lconst {pc' : Nat} {n : Fin 2} {x : Int64} (hd : decode M.2.1 pc = .ok (.lconst n, 1)) (hv : Int64.ofNat (n : Nat) = x) (hp : pc + 1 = pc') (k : ks_X l G M d pc' lv (.long x :: st) S P) : ks_X l G M d pc lv (st) S P := by
  subst hp
  exact ks_pure (fun p e R s m args below meth c H locs cells slots ls Q C hl k => lv_lconst C.1 C.2.1 hd hv k) k
theorem ks_null {pc' : Nat}  (hd : decode M.2.1 pc = .ok (.aconst_null, 1))  (hp : pc + 1 = pc') (k : ks_X l G M d pc' lv (.null :: st) S P) : ks_X l G M d pc lv (st) S P := by
  subst hp
  exact ks_pure (fun p e R s m args below meth c H locs cells slots ls Q C hl k => lv_null C.1 C.2.1 hd k) k
theorem ks_ldc {pc' : Nat} {ix : Nat} {x : Int32} (hd : decode M.2.1 pc = .ok (.ldc ix, 2)) (hw : Cond.constant M.1 ix x ∈ lw_tbl) (hp : pc + 2 = pc') (k : ks_X l G M d pc' lv (.int x :: st) S P) : ks_X l G M d pc lv (st) S P := by
  subst hp
  exact ks_pure (fun p e R s m args below meth c H locs cells slots ls Q C hl k => lv_ldc C.1 C.2.1 C.2.2.2.2.1 (C.2.2.2.2.2.1 _ hw rfl) hd k) k
theorem ks_ldcw {pc' : Nat} {ix : Nat} {x : Int32} (hd : decode M.2.1 pc = .ok (.ldc_w ix, 3)) (hw : Cond.constant M.1 ix x ∈ lw_tbl) (hp : pc + 3 = pc') (k : ks_X l G M d pc' lv (.int x :: st) S P) : ks_X l G M d pc lv (st) S P := by
  subst hp
  exact ks_pure (fun p e R s m args below meth c H locs cells slots ls Q C hl k => lv_ldcw C.1 C.2.1 C.2.2.2.2.1 (C.2.2.2.2.2.1 _ hw rfl) hd k) k
theorem ks_ldc2 {pc' : Nat} {ix : Nat} {x : Int64} (hd : decode M.2.1 pc = .ok (.ldc2_w ix, 3)) (hw : Cond.constantLong M.1 ix x ∈ lw_tbl) (hp : pc + 3 = pc') (k : ks_X l G M d pc' lv (.long x :: st) S P) : ks_X l G M d pc lv (st) S P := by
  subst hp
  exact ks_pure (fun p e R s m args below meth c H locs cells slots ls Q C hl k => lv_ldc2 C.1 C.2.1 C.2.2.2.2.1 (C.2.2.2.2.2.1 _ hw rfl) hd k) k
theorem ks_iload_n {pc' : Nat} {k4 : Fin 4} {x : Int32} (hd : decode M.2.1 pc = .ok (.iload_n k4, 1)) (hg : ks_get lv (k4 : Nat) = some (.int x)) (hp : pc + 1 = pc') (k : ks_X l G M d pc' lv (.int x :: st) S P) : ks_X l G M d pc lv (st) S P := by
  subst hp
  exact ks_pure (fun p e R s m args below meth c H locs cells slots ls Q C hl k => lv_iload_n C.1 C.2.1 hd rfl (ks_has hl hg) k) k
theorem ks_iload {pc' : Nat} {i : Nat} {x : Int32} (hd : decode M.2.1 pc = .ok (.iload i, 2)) (hg : ks_get lv i = some (.int x)) (hp : pc + 2 = pc') (k : ks_X l G M d pc' lv (.int x :: st) S P) : ks_X l G M d pc lv (st) S P := by
  subst hp
  exact ks_pure (fun p e R s m args below meth c H locs cells slots ls Q C hl k => lv_iload C.1 C.2.1 hd (ks_has hl hg) k) k
theorem ks_lload_n {pc' : Nat} {k4 : Fin 4} {x : Int64} (hd : decode M.2.1 pc = .ok (.lload_n k4, 1)) (hg : ks_get lv (k4 : Nat) = some (.long x)) (hp : pc + 1 = pc') (k : ks_X l G M d pc' lv (.long x :: st) S P) : ks_X l G M d pc lv (st) S P := by
  subst hp
  exact ks_pure (fun p e R s m args below meth c H locs cells slots ls Q C hl k => lv_lload_n C.1 C.2.1 hd rfl (ks_has hl hg) k) k
theorem ks_lload {pc' : Nat} {i : Nat} {x : Int64} (hd : decode M.2.1 pc = .ok (.lload i, 2)) (hg : ks_get lv i = some (.long x)) (hp : pc + 2 = pc') (k : ks_X l G M d pc' lv (.long x :: st) S P) : ks_X l G M d pc lv (st) S P := by
  subst hp
  exact ks_pure (fun p e R s m args below meth c H locs cells slots ls Q C hl k => lv_lload C.1 C.2.1 hd (ks_has hl hg) k) k
theorem ks_aload_n {pc' : Nat} {k4 : Fin 4} {x : Nat} (hd : decode M.2.1 pc = .ok (.aload_n k4, 1)) (hg : ks_get lv (k4 : Nat) = some (.ref x)) (hp : pc + 1 = pc') (k : ks_X l G M d pc' lv (.ref x :: st) S P) : ks_X l G M d pc lv (st) S P := by
  subst hp
  exact ks_pure (fun p e R s m args below meth c H locs cells slots ls Q C hl k => lv_aload_n C.1 C.2.1 hd rfl (ks_has hl hg) k) k
theorem ks_aload {pc' : Nat} {i : Nat} {x : Nat} (hd : decode M.2.1 pc = .ok (.aload i, 2)) (hg : ks_get lv i = some (.ref x)) (hp : pc + 2 = pc') (k : ks_X l G M d pc' lv (.ref x :: st) S P) : ks_X l G M d pc lv (st) S P := by
  subst hp
  exact ks_pure (fun p e R s m args below meth c H locs cells slots ls Q C hl k => lv_aload C.1 C.2.1 hd (ks_has hl hg) k) k
theorem ks_aload_nN {pc' : Nat} {k4 : Fin 4} (hd : decode M.2.1 pc = .ok (.aload_n k4, 1)) (hg : ks_get lv (k4 : Nat) = some .null) (hp : pc + 1 = pc') (k : ks_X l G M d pc' lv (.null :: st) S P) : ks_X l G M d pc lv (st) S P := by
  subst hp
  exact ks_pure (fun p e R s m args below meth c H locs cells slots ls Q C hl k => lv_aload_nN C.1 C.2.1 hd rfl (ks_has hl hg) k) k
theorem ks_aloadN {pc' : Nat} {i : Nat} (hd : decode M.2.1 pc = .ok (.aload i, 2)) (hg : ks_get lv i = some .null) (hp : pc + 2 = pc') (k : ks_X l G M d pc' lv (.null :: st) S P) : ks_X l G M d pc lv (st) S P := by
  subst hp
  exact ks_pure (fun p e R s m args below meth c H locs cells slots ls Q C hl k => lv_aloadN C.1 C.2.1 hd (ks_has hl hg) k) k
theorem ks_istore_n {pc' : Nat} {k4 : Fin 4} {x : Int32} (hd : decode M.2.1 pc = .ok (.istore_n k4, 1)) (hn : (k4 : Nat) < M.2.2.1) (hp : pc + 1 = pc') (k : ks_X l G M d pc' (ks_put1 lv (k4 : Nat) (.int x)) st S P) : ks_X l G M d pc lv (.int x :: st) S P := by
  subst hp
  exact ks_local (fun p e R s m args below meth c H locs cells slots ls Q C hl k => lv_istore_n C.1 C.2.1 hd rfl hl hn (ks_put1_map G lv _ (.int x)) k) k
theorem ks_istore {pc' : Nat} {i : Nat} {x : Int32} (hd : decode M.2.1 pc = .ok (.istore i, 2)) (hn : i < M.2.2.1) (hp : pc + 2 = pc') (k : ks_X l G M d pc' (ks_put1 lv i (.int x)) st S P) : ks_X l G M d pc lv (.int x :: st) S P := by
  subst hp
  exact ks_local (fun p e R s m args below meth c H locs cells slots ls Q C hl k => lv_istore C.1 C.2.1 hd hl hn (ks_put1_map G lv _ (.int x)) k) k
theorem ks_lstore_n {pc' : Nat} {k4 : Fin 4} {x : Int64} (hd : decode M.2.1 pc = .ok (.lstore_n k4, 1)) (hn : (k4 : Nat) + 1 < M.2.2.1) (hp : pc + 1 = pc') (k : ks_X l G M d pc' (ks_put2 lv (k4 : Nat) (.long x)) st S P) : ks_X l G M d pc lv (.long x :: st) S P := by
  subst hp
  exact ks_local (fun p e R s m args below meth c H locs cells slots ls Q C hl k => lv_lstore_n C.1 C.2.1 hd rfl hl hn (ks_put2_map G lv _ (.long x)) k) k
theorem ks_lstore {pc' : Nat} {i : Nat} {x : Int64} (hd : decode M.2.1 pc = .ok (.lstore i, 2)) (hn : i + 1 < M.2.2.1) (hp : pc + 2 = pc') (k : ks_X l G M d pc' (ks_put2 lv i (.long x)) st S P) : ks_X l G M d pc lv (.long x :: st) S P := by
  subst hp
  exact ks_local (fun p e R s m args below meth c H locs cells slots ls Q C hl k => lv_lstore C.1 C.2.1 hd hl hn (ks_put2_map G lv _ (.long x)) k) k
theorem ks_astore_n {pc' : Nat} {k4 : Fin 4} {x : Nat} (hd : decode M.2.1 pc = .ok (.astore_n k4, 1)) (hn : (k4 : Nat) < M.2.2.1) (hp : pc + 1 = pc') (k : ks_X l G M d pc' (ks_put1 lv (k4 : Nat) (.ref x)) st S P) : ks_X l G M d pc lv (.ref x :: st) S P := by
  subst hp
  exact ks_local (fun p e R s m args below meth c H locs cells slots ls Q C hl k => lv_astore_n C.1 C.2.1 hd rfl hl hn (ks_put1_map G lv _ (.ref x)) k) k
theorem ks_astore {pc' : Nat} {i : Nat} {x : Nat} (hd : decode M.2.1 pc = .ok (.astore i, 2)) (hn : i < M.2.2.1) (hp : pc + 2 = pc') (k : ks_X l G M d pc' (ks_put1 lv i (.ref x)) st S P) : ks_X l G M d pc lv (.ref x :: st) S P := by
  subst hp
  exact ks_local (fun p e R s m args below meth c H locs cells slots ls Q C hl k => lv_astore C.1 C.2.1 hd hl hn (ks_put1_map G lv _ (.ref x)) k) k
theorem ks_astore_nN {pc' : Nat} {k4 : Fin 4} (hd : decode M.2.1 pc = .ok (.astore_n k4, 1)) (hn : (k4 : Nat) < M.2.2.1) (hp : pc + 1 = pc') (k : ks_X l G M d pc' (ks_put1 lv (k4 : Nat) .null) st S P) : ks_X l G M d pc lv (.null :: st) S P := by
  subst hp
  exact ks_local (fun p e R s m args below meth c H locs cells slots ls Q C hl k => lv_astore_nN C.1 C.2.1 hd rfl hl hn (ks_put1_map G lv _ .null) k) k
theorem ks_astoreN {pc' : Nat} {i : Nat} (hd : decode M.2.1 pc = .ok (.astore i, 2)) (hn : i < M.2.2.1) (hp : pc + 2 = pc') (k : ks_X l G M d pc' (ks_put1 lv i .null) st S P) : ks_X l G M d pc lv (.null :: st) S P := by
  subst hp
  exact ks_local (fun p e R s m args below meth c H locs cells slots ls Q C hl k => lv_astoreN C.1 C.2.1 hd hl hn (ks_put1_map G lv _ .null) k) k
theorem ks_iinc {pc' : Nat} {i : Nat} {n : Int} {x y : Int32} (hd : decode M.2.1 pc = .ok (.iinc i n, 3)) (hg : ks_get lv i = some (.int x)) (hy : x + Int32.ofInt n = y) (hn : i < M.2.2.1) (hp : pc + 3 = pc') (k : ks_X l G M d pc' (ks_put1 lv i (.int y)) st S P) : ks_X l G M d pc lv st S P := by
  subst hp
  obtain ⟨j, hj⟩ := List.getElem?_of_mem (ks_get_mem hg)
  exact ks_local (fun p e R s m args below meth c H locs cells slots ls Q C hl k => lv_iinc C.1 C.2.1 hd hl (k := j) (x := x) (by rw [List.getElem?_map, hj]; rfl) hy hn (ks_put1_map G lv _ (.int y)) k) k
theorem ks_iadd {pc' : Nat} {x y : Int32} (hd : decode M.2.1 pc = .ok (.iadd, 1))  (hp : pc + 1 = pc') (k : ks_X l G M d pc' lv (.int (x + y) :: st) S P) : ks_X l G M d pc lv (.int y :: .int x :: st) S P := by
  subst hp
  exact ks_pure (fun p e R s m args below meth c H locs cells slots ls Q C hl k => lv_iadd C.1 C.2.1 hd k) k
theorem ks_isub {pc' : Nat} {x y : Int32} (hd : decode M.2.1 pc = .ok (.isub, 1))  (hp : pc + 1 = pc') (k : ks_X l G M d pc' lv (.int (x - y) :: st) S P) : ks_X l G M d pc lv (.int y :: .int x :: st) S P := by
  subst hp
  exact ks_pure (fun p e R s m args below meth c H locs cells slots ls Q C hl k => lv_isub C.1 C.2.1 hd k) k
theorem ks_imul {pc' : Nat} {x y : Int32} (hd : decode M.2.1 pc = .ok (.imul, 1))  (hp : pc + 1 = pc') (k : ks_X l G M d pc' lv (.int (x * y) :: st) S P) : ks_X l G M d pc lv (.int y :: .int x :: st) S P := by
  subst hp
  exact ks_pure (fun p e R s m args below meth c H locs cells slots ls Q C hl k => lv_imul C.1 C.2.1 hd k) k
theorem ks_iand {pc' : Nat} {x y : Int32} (hd : decode M.2.1 pc = .ok (.iand, 1))  (hp : pc + 1 = pc') (k : ks_X l G M d pc' lv (.int (x &&& y) :: st) S P) : ks_X l G M d pc lv (.int y :: .int x :: st) S P := by
  subst hp
  exact ks_pure (fun p e R s m args below meth c H locs cells slots ls Q C hl k => lv_iand C.1 C.2.1 hd k) k
theorem ks_ior {pc' : Nat} {x y : Int32} (hd : decode M.2.1 pc = .ok (.ior, 1))  (hp : pc + 1 = pc') (k : ks_X l G M d pc' lv (.int (x ||| y) :: st) S P) : ks_X l G M d pc lv (.int y :: .int x :: st) S P := by
  subst hp
  exact ks_pure (fun p e R s m args below meth c H locs cells slots ls Q C hl k => lv_ior C.1 C.2.1 hd k) k
theorem ks_ixor {pc' : Nat} {x y : Int32} (hd : decode M.2.1 pc = .ok (.ixor, 1))  (hp : pc + 1 = pc') (k : ks_X l G M d pc' lv (.int (x ^^^ y) :: st) S P) : ks_X l G M d pc lv (.int y :: .int x :: st) S P := by
  subst hp
  exact ks_pure (fun p e R s m args below meth c H locs cells slots ls Q C hl k => lv_ixor C.1 C.2.1 hd k) k
theorem ks_ishl {pc' : Nat} {x y : Int32} (hd : decode M.2.1 pc = .ok (.ishl, 1))  (hp : pc + 1 = pc') (k : ks_X l G M d pc' lv (.int (x <<< (y &&& 31)) :: st) S P) : ks_X l G M d pc lv (.int y :: .int x :: st) S P := by
  subst hp
  exact ks_pure (fun p e R s m args below meth c H locs cells slots ls Q C hl k => lv_ishl C.1 C.2.1 hd k) k
theorem ks_ishr {pc' : Nat} {x y : Int32} (hd : decode M.2.1 pc = .ok (.ishr, 1))  (hp : pc + 1 = pc') (k : ks_X l G M d pc' lv (.int (x >>> (y &&& 31)) :: st) S P) : ks_X l G M d pc lv (.int y :: .int x :: st) S P := by
  subst hp
  exact ks_pure (fun p e R s m args below meth c H locs cells slots ls Q C hl k => lv_ishr C.1 C.2.1 hd k) k
theorem ks_iushr {pc' : Nat} {x y : Int32} (hd : decode M.2.1 pc = .ok (.iushr, 1))  (hp : pc + 1 = pc') (k : ks_X l G M d pc' lv (.int ((x.toUInt32 >>> (y.toUInt32 &&& Int32.toUInt32 31)).toInt32) :: st) S P) : ks_X l G M d pc lv (.int y :: .int x :: st) S P := by
  subst hp
  exact ks_pure (fun p e R s m args below meth c H locs cells slots ls Q C hl k => lv_iushr C.1 C.2.1 hd rfl k) k
theorem ks_idiv {pc' : Nat} {x y : Int32} (hd : decode M.2.1 pc = .ok (.idiv, 1)) (hne : ¬ y = 0) (hp : pc + 1 = pc') (k : ks_X l G M d pc' lv (.int (x / y) :: st) S P) : ks_X l G M d pc lv (.int y :: .int x :: st) S P := by
  subst hp
  exact ks_pure (fun p e R s m args below meth c H locs cells slots ls Q C hl k => lv_idiv C.1 C.2.1 hd hne k) k
theorem ks_irem {pc' : Nat} {x y : Int32} (hd : decode M.2.1 pc = .ok (.irem, 1)) (hne : ¬ y = 0) (hp : pc + 1 = pc') (k : ks_X l G M d pc' lv (.int (x - x / y * y) :: st) S P) : ks_X l G M d pc lv (.int y :: .int x :: st) S P := by
  subst hp
  exact ks_pure (fun p e R s m args below meth c H locs cells slots ls Q C hl k => lv_irem C.1 C.2.1 hd hne k) k
theorem ks_ineg {pc' : Nat} {x : Int32} (hd : decode M.2.1 pc = .ok (.ineg, 1))  (hp : pc + 1 = pc') (k : ks_X l G M d pc' lv (.int (-x) :: st) S P) : ks_X l G M d pc lv (.int x :: st) S P := by
  subst hp
  exact ks_pure (fun p e R s m args below meth c H locs cells slots ls Q C hl k => lv_ineg C.1 C.2.1 hd k) k
theorem ks_ladd {pc' : Nat} {x y : Int64} (hd : decode M.2.1 pc = .ok (.ladd, 1))  (hp : pc + 1 = pc') (k : ks_X l G M d pc' lv (.long (x + y) :: st) S P) : ks_X l G M d pc lv (.long y :: .long x :: st) S P := by
  subst hp
  exact ks_pure (fun p e R s m args below meth c H locs cells slots ls Q C hl k => lv_ladd C.1 C.2.1 hd k) k
theorem ks_lsub {pc' : Nat} {x y : Int64} (hd : decode M.2.1 pc = .ok (.lsub, 1))  (hp : pc + 1 = pc') (k : ks_X l G M d pc' lv (.long (x - y) :: st) S P) : ks_X l G M d pc lv (.long y :: .long x :: st) S P := by
  subst hp
  exact ks_pure (fun p e R s m args below meth c H locs cells slots ls Q C hl k => lv_lsub C.1 C.2.1 hd k) k
theorem ks_lmul {pc' : Nat} {x y : Int64} (hd : decode M.2.1 pc = .ok (.lmul, 1))  (hp : pc + 1 = pc') (k : ks_X l G M d pc' lv (.long (x * y) :: st) S P) : ks_X l G M d pc lv (.long y :: .long x :: st) S P := by
  subst hp
  exact ks_pure (fun p e R s m args below meth c H locs cells slots ls Q C hl k => lv_lmul C.1 C.2.1 hd k) k
theorem ks_land {pc' : Nat} {x y : Int64} (hd : decode M.2.1 pc = .ok (.land, 1))  (hp : pc + 1 = pc') (k : ks_X l G M d pc' lv (.long (x &&& y) :: st) S P) : ks_X l G M d pc lv (.long y :: .long x :: st) S P := by
  subst hp
  exact ks_pure (fun p e R s m args below meth c H locs cells slots ls Q C hl k => lv_land C.1 C.2.1 hd k) k
theorem ks_lor {pc' : Nat} {x y : Int64} (hd : decode M.2.1 pc = .ok (.lor, 1))  (hp : pc + 1 = pc') (k : ks_X l G M d pc' lv (.long (x ||| y) :: st) S P) : ks_X l G M d pc lv (.long y :: .long x :: st) S P := by
  subst hp
  exact ks_pure (fun p e R s m args below meth c H locs cells slots ls Q C hl k => lv_lor C.1 C.2.1 hd k) k
theorem ks_lxor {pc' : Nat} {x y : Int64} (hd : decode M.2.1 pc = .ok (.lxor, 1))  (hp : pc + 1 = pc') (k : ks_X l G M d pc' lv (.long (x ^^^ y) :: st) S P) : ks_X l G M d pc lv (.long y :: .long x :: st) S P := by
  subst hp
  exact ks_pure (fun p e R s m args below meth c H locs cells slots ls Q C hl k => lv_lxor C.1 C.2.1 hd k) k
theorem ks_ldiv {pc' : Nat} {x y : Int64} (hd : decode M.2.1 pc = .ok (.ldiv, 1)) (hne : ¬ y = 0) (hp : pc + 1 = pc') (k : ks_X l G M d pc' lv (.long (x / y) :: st) S P) : ks_X l G M d pc lv (.long y :: .long x :: st) S P := by
  subst hp
  exact ks_pure (fun p e R s m args below meth c H locs cells slots ls Q C hl k => lv_ldiv C.1 C.2.1 hd hne k) k
theorem ks_lrem {pc' : Nat} {x y : Int64} (hd : decode M.2.1 pc = .ok (.lrem, 1)) (hne : ¬ y = 0) (hp : pc + 1 = pc') (k : ks_X l G M d pc' lv (.long (x - x / y * y) :: st) S P) : ks_X l G M d pc lv (.long y :: .long x :: st) S P := by
  subst hp
  exact ks_pure (fun p e R s m args below meth c H locs cells slots ls Q C hl k => lv_lrem C.1 C.2.1 hd hne k) k
theorem ks_lneg {pc' : Nat} {x : Int64} (hd : decode M.2.1 pc = .ok (.lneg, 1))  (hp : pc + 1 = pc') (k : ks_X l G M d pc' lv (.long (-x) :: st) S P) : ks_X l G M d pc lv (.long x :: st) S P := by
  subst hp
  exact ks_pure (fun p e R s m args below meth c H locs cells slots ls Q C hl k => lv_lneg C.1 C.2.1 hd k) k
theorem ks_lcmp {pc' : Nat} {x y : Int64} (hd : decode M.2.1 pc = .ok (.lcmp, 1))  (hp : pc + 1 = pc') (k : ks_X l G M d pc' lv (.int (lg_cmp x y) :: st) S P) : ks_X l G M d pc lv (.long y :: .long x :: st) S P := by
  subst hp
  exact ks_pure (fun p e R s m args below meth c H locs cells slots ls Q C hl k => W.lcmp C.1 C.2.1 hd k) k
theorem ks_lushr {pc' : Nat} {x : Int64} {y : Int32} (hd : decode M.2.1 pc = .ok (.lushr, 1))  (hp : pc + 1 = pc') (k : ks_X l G M d pc' lv (.long ((x.toUInt64 >>> (y.toInt64.toUInt64 &&& Int64.toUInt64 63)).toInt64) :: st) S P) : ks_X l G M d pc lv (.int y :: .long x :: st) S P := by
  subst hp
  exact ks_pure (fun p e R s m args below meth c H locs cells slots ls Q C hl k => lv_lushr C.1 C.2.1 hd rfl k) k
theorem ks_lshl {pc' : Nat} {x : Int64} {y : Int32} (hd : decode M.2.1 pc = .ok (.lshl, 1))  (hp : pc + 1 = pc') (k : ks_X l G M d pc' lv (.long (x <<< (y.toInt64 &&& 63)) :: st) S P) : ks_X l G M d pc lv (.int y :: .long x :: st) S P := by
  subst hp
  exact ks_pure (fun p e R s m args below meth c H locs cells slots ls Q C hl k => lv_lshl C.1 C.2.1 hd rfl k) k
theorem ks_lshr {pc' : Nat} {x : Int64} {y : Int32} (hd : decode M.2.1 pc = .ok (.lshr, 1))  (hp : pc + 1 = pc') (k : ks_X l G M d pc' lv (.long (x >>> (y.toInt64 &&& 63)) :: st) S P) : ks_X l G M d pc lv (.int y :: .long x :: st) S P := by
  subst hp
  exact ks_pure (fun p e R s m args below meth c H locs cells slots ls Q C hl k => lv_lshr C.1 C.2.1 hd rfl k) k
theorem ks_i2l {pc' : Nat} {x : Int32} (hd : decode M.2.1 pc = .ok (.i2l, 1))  (hp : pc + 1 = pc') (k : ks_X l G M d pc' lv (.long x.toInt64 :: st) S P) : ks_X l G M d pc lv (.int x :: st) S P := by
  subst hp
  exact ks_pure (fun p e R s m args below meth c H locs cells slots ls Q C hl k => lv_i2l C.1 C.2.1 hd rfl k) k
theorem ks_l2i {pc' : Nat} {x : Int64} (hd : decode M.2.1 pc = .ok (.l2i, 1))  (hp : pc + 1 = pc') (k : ks_X l G M d pc' lv (.int x.toInt32 :: st) S P) : ks_X l G M d pc lv (.long x :: st) S P := by
  subst hp
  exact ks_pure (fun p e R s m args below meth c H locs cells slots ls Q C hl k => lv_l2i C.1 C.2.1 hd rfl k) k
theorem ks_i2b {pc' : Nat} {x : Int32} (hd : decode M.2.1 pc = .ok (.i2b, 1))  (hp : pc + 1 = pc') (k : ks_X l G M d pc' lv (.int x.toInt8.toInt32 :: st) S P) : ks_X l G M d pc lv (.int x :: st) S P := by
  subst hp
  exact ks_pure (fun p e R s m args below meth c H locs cells slots ls Q C hl k => lv_i2b C.1 C.2.1 hd rfl k) k
theorem ks_dup {pc' : Nat} {va : Value} (hd : decode M.2.1 pc = .ok (.dup, 1)) (hc : va.category = 1) (hp : pc + 1 = pc') (k : ks_X l G M d pc' lv (va :: va :: st) S P) : ks_X l G M d pc lv (va :: st) S P := by
  subst hp
  exact ks_pure (fun p e R s m args below meth c H locs cells slots ls Q C hl k => lv_dup C.1 C.2.1 hd ((ks_v_cat G va).trans hc) k) k
theorem ks_pop {pc' : Nat} {va : Value} (hd : decode M.2.1 pc = .ok (.pop, 1)) (hc : va.category = 1) (hp : pc + 1 = pc') (k : ks_X l G M d pc' lv (st) S P) : ks_X l G M d pc lv (va :: st) S P := by
  subst hp
  exact ks_pure (fun p e R s m args below meth c H locs cells slots ls Q C hl k => lv_pop C.1 C.2.1 hd ((ks_v_cat G va).trans hc) k) k
theorem ks_dup2_11 {pc' : Nat} {va vb : Value} (hd : decode M.2.1 pc = .ok (.dup2, 1)) (hc : va.category = 1) (hc2 : vb.category = 1) (hp : pc + 1 = pc') (k : ks_X l G M d pc' lv (va :: vb :: va :: vb :: st) S P) : ks_X l G M d pc lv (va :: vb :: st) S P := by
  subst hp
  exact ks_pure (fun p e R s m args below meth c H locs cells slots ls Q C hl k => lv_dup2_11 C.1 C.2.1 hd ((ks_v_cat G va).trans hc) ((ks_v_cat G vb).trans hc2) k) k
theorem ks_dup2_2 {pc' : Nat} {va : Value} (hd : decode M.2.1 pc = .ok (.dup2, 1)) (hc : va.category = 2) (hp : pc + 1 = pc') (k : ks_X l G M d pc' lv (va :: va :: st) S P) : ks_X l G M d pc lv (va :: st) S P := by
  subst hp
  exact ks_pure (fun p e R s m args below meth c H locs cells slots ls Q C hl k => lv_dup2_2 C.1 C.2.1 hd ((ks_v_cat G va).trans hc) k) k
theorem ks_pop2_2 {pc' : Nat} {va : Value} (hd : decode M.2.1 pc = .ok (.pop2, 1)) (hc : va.category = 2) (hp : pc + 1 = pc') (k : ks_X l G M d pc' lv (st) S P) : ks_X l G M d pc lv (va :: st) S P := by
  subst hp
  exact ks_pure (fun p e R s m args below meth c H locs cells slots ls Q C hl k => lv_pop2_2 C.1 C.2.1 hd ((ks_v_cat G va).trans hc) k) k
theorem ks_if_eq {pc' tgt : Nat} {x : Int32} {off : Int} (hd : decode M.2.1 pc = .ok (.ifCond .eq off, 3)) (ht : (pc : Int) + off = (tgt : Int)) (hp : pc + 3 = pc') (kt : x = 0 → ks_X l G M d tgt lv st S P) (kf : ¬ x = 0 → ks_X l G M d pc' lv st S P) : ks_X l G M d pc lv (.int x :: st) S P := by
  subst hp
  by_cases hc : x = 0
  · exact ks_pure (fun p e R s m args below meth c H locs cells slots ls Q C hl k => lv_if_eq C.1 C.2.1 hd ht (fun h9 => k) (fun h8 => absurd hc h8)) (kt hc)
  · exact ks_pure (fun p e R s m args below meth c H locs cells slots ls Q C hl k => lv_if_eq C.1 C.2.1 hd ht (fun h9 => absurd h9 hc) (fun h8 => k)) (kf hc)
theorem ks_icmp_eq {pc' tgt : Nat} {x y : Int32} {off : Int} (hd : decode M.2.1 pc = .ok (.if_icmp .eq off, 3)) (ht : (pc : Int) + off = (tgt : Int)) (hp : pc + 3 = pc') (kt : x = y → ks_X l G M d tgt lv st S P) (kf : ¬ x = y → ks_X l G M d pc' lv st S P) : ks_X l G M d pc lv (.int y :: .int x :: st) S P := by
  subst hp
  by_cases hc : x = y
  · exact ks_pure (fun p e R s m args below meth c H locs cells slots ls Q C hl k => lv_icmp_eq C.1 C.2.1 hd ht (fun h9 => k) (fun h8 => absurd hc h8)) (kt hc)
  · exact ks_pure (fun p e R s m args below meth c H locs cells slots ls Q C hl k => lv_icmp_eq C.1 C.2.1 hd ht (fun h9 => absurd h9 hc) (fun h8 => k)) (kf hc)
theorem ks_if_ne {pc' tgt : Nat} {x : Int32} {off : Int} (hd : decode M.2.1 pc = .ok (.ifCond .ne off, 3)) (ht : (pc : Int) + off = (tgt : Int)) (hp : pc + 3 = pc') (kt : ¬ x = 0 → ks_X l G M d tgt lv st S P) (kf : x = 0 → ks_X l G M d pc' lv st S P) : ks_X l G M d pc lv (.int x :: st) S P := by
  subst hp
  by_cases hc : x = 0
  · exact ks_pure (fun p e R s m args below meth c H locs cells slots ls Q C hl k => lv_if_ne C.1 C.2.1 hd ht (fun h9 => absurd hc h9) (fun h8 => k)) (kf hc)
  · exact ks_pure (fun p e R s m args below meth c H locs cells slots ls Q C hl k => lv_if_ne C.1 C.2.1 hd ht (fun h9 => k) (fun h8 => absurd h8 hc)) (kt hc)
theorem ks_icmp_ne {pc' tgt : Nat} {x y : Int32} {off : Int} (hd : decode M.2.1 pc = .ok (.if_icmp .ne off, 3)) (ht : (pc : Int) + off = (tgt : Int)) (hp : pc + 3 = pc') (kt : ¬ x = y → ks_X l G M d tgt lv st S P) (kf : x = y → ks_X l G M d pc' lv st S P) : ks_X l G M d pc lv (.int y :: .int x :: st) S P := by
  subst hp
  by_cases hc : x = y
  · exact ks_pure (fun p e R s m args below meth c H locs cells slots ls Q C hl k => lv_icmp_ne C.1 C.2.1 hd ht (fun h9 => absurd hc h9) (fun h8 => k)) (kf hc)
  · exact ks_pure (fun p e R s m args below meth c H locs cells slots ls Q C hl k => lv_icmp_ne C.1 C.2.1 hd ht (fun h9 => k) (fun h8 => absurd h8 hc)) (kt hc)
theorem ks_if_lt {pc' tgt : Nat} {x : Int32} {off : Int} (hd : decode M.2.1 pc = .ok (.ifCond .lt off, 3)) (ht : (pc : Int) + off = (tgt : Int)) (hp : pc + 3 = pc') (kt : x < 0 → ks_X l G M d tgt lv st S P) (kf : ¬ x < 0 → ks_X l G M d pc' lv st S P) : ks_X l G M d pc lv (.int x :: st) S P := by
  subst hp
  by_cases hc : x < 0
  · exact ks_pure (fun p e R s m args below meth c H locs cells slots ls Q C hl k => lv_if_lt C.1 C.2.1 hd ht (fun h9 => k) (fun h8 => absurd hc h8)) (kt hc)
  · exact ks_pure (fun p e R s m args below meth c H locs cells slots ls Q C hl k => lv_if_lt C.1 C.2.1 hd ht (fun h9 => absurd h9 hc) (fun h8 => k)) (kf hc)
theorem ks_icmp_lt {pc' tgt : Nat} {x y : Int32} {off : Int} (hd : decode M.2.1 pc = .ok (.if_icmp .lt off, 3)) (ht : (pc : Int) + off = (tgt : Int)) (hp : pc + 3 = pc') (kt : x < y → ks_X l G M d tgt lv st S P) (kf : ¬ x < y → ks_X l G M d pc' lv st S P) : ks_X l G M d pc lv (.int y :: .int x :: st) S P := by
  subst hp
  by_cases hc : x < y
  · exact ks_pure (fun p e R s m args below meth c H locs cells slots ls Q C hl k => lv_icmp_lt C.1 C.2.1 hd ht (fun h9 => k) (fun h8 => absurd hc h8)) (kt hc)
  · exact ks_pure (fun p e R s m args below meth c H locs cells slots ls Q C hl k => lv_icmp_lt C.1 C.2.1 hd ht (fun h9 => absurd h9 hc) (fun h8 => k)) (kf hc)
theorem ks_if_ge {pc' tgt : Nat} {x : Int32} {off : Int} (hd : decode M.2.1 pc = .ok (.ifCond .ge off, 3)) (ht : (pc : Int) + off = (tgt : Int)) (hp : pc + 3 = pc') (kt : 0 ≤ x → ks_X l G M d tgt lv st S P) (kf : ¬ 0 ≤ x → ks_X l G M d pc' lv st S P) : ks_X l G M d pc lv (.int x :: st) S P := by
  subst hp
  by_cases hc : 0 ≤ x
  · exact ks_pure (fun p e R s m args below meth c H locs cells slots ls Q C hl k => lv_if_ge C.1 C.2.1 hd ht (fun h9 => k) (fun h8 => absurd hc h8)) (kt hc)
  · exact ks_pure (fun p e R s m args below meth c H locs cells slots ls Q C hl k => lv_if_ge C.1 C.2.1 hd ht (fun h9 => absurd h9 hc) (fun h8 => k)) (kf hc)
theorem ks_icmp_ge {pc' tgt : Nat} {x y : Int32} {off : Int} (hd : decode M.2.1 pc = .ok (.if_icmp .ge off, 3)) (ht : (pc : Int) + off = (tgt : Int)) (hp : pc + 3 = pc') (kt : y ≤ x → ks_X l G M d tgt lv st S P) (kf : ¬ y ≤ x → ks_X l G M d pc' lv st S P) : ks_X l G M d pc lv (.int y :: .int x :: st) S P := by
  subst hp
  by_cases hc : y ≤ x
  · exact ks_pure (fun p e R s m args below meth c H locs cells slots ls Q C hl k => lv_icmp_ge C.1 C.2.1 hd ht (fun h9 => k) (fun h8 => absurd hc h8)) (kt hc)
  · exact ks_pure (fun p e R s m args below meth c H locs cells slots ls Q C hl k => lv_icmp_ge C.1 C.2.1 hd ht (fun h9 => absurd h9 hc) (fun h8 => k)) (kf hc)
theorem ks_if_gt {pc' tgt : Nat} {x : Int32} {off : Int} (hd : decode M.2.1 pc = .ok (.ifCond .gt off, 3)) (ht : (pc : Int) + off = (tgt : Int)) (hp : pc + 3 = pc') (kt : 0 < x → ks_X l G M d tgt lv st S P) (kf : ¬ 0 < x → ks_X l G M d pc' lv st S P) : ks_X l G M d pc lv (.int x :: st) S P := by
  subst hp
  by_cases hc : 0 < x
  · exact ks_pure (fun p e R s m args below meth c H locs cells slots ls Q C hl k => lv_if_gt C.1 C.2.1 hd ht (fun h9 => k) (fun h8 => absurd hc h8)) (kt hc)
  · exact ks_pure (fun p e R s m args below meth c H locs cells slots ls Q C hl k => lv_if_gt C.1 C.2.1 hd ht (fun h9 => absurd h9 hc) (fun h8 => k)) (kf hc)
theorem ks_icmp_gt {pc' tgt : Nat} {x y : Int32} {off : Int} (hd : decode M.2.1 pc = .ok (.if_icmp .gt off, 3)) (ht : (pc : Int) + off = (tgt : Int)) (hp : pc + 3 = pc') (kt : y < x → ks_X l G M d tgt lv st S P) (kf : ¬ y < x → ks_X l G M d pc' lv st S P) : ks_X l G M d pc lv (.int y :: .int x :: st) S P := by
  subst hp
  by_cases hc : y < x
  · exact ks_pure (fun p e R s m args below meth c H locs cells slots ls Q C hl k => lv_icmp_gt C.1 C.2.1 hd ht (fun h9 => k) (fun h8 => absurd hc h8)) (kt hc)
  · exact ks_pure (fun p e R s m args below meth c H locs cells slots ls Q C hl k => lv_icmp_gt C.1 C.2.1 hd ht (fun h9 => absurd h9 hc) (fun h8 => k)) (kf hc)
theorem ks_if_le {pc' tgt : Nat} {x : Int32} {off : Int} (hd : decode M.2.1 pc = .ok (.ifCond .le off, 3)) (ht : (pc : Int) + off = (tgt : Int)) (hp : pc + 3 = pc') (kt : x ≤ 0 → ks_X l G M d tgt lv st S P) (kf : ¬ x ≤ 0 → ks_X l G M d pc' lv st S P) : ks_X l G M d pc lv (.int x :: st) S P := by
  subst hp
  by_cases hc : x ≤ 0
  · exact ks_pure (fun p e R s m args below meth c H locs cells slots ls Q C hl k => lv_if_le C.1 C.2.1 hd ht (fun h9 => k) (fun h8 => absurd hc h8)) (kt hc)
  · exact ks_pure (fun p e R s m args below meth c H locs cells slots ls Q C hl k => lv_if_le C.1 C.2.1 hd ht (fun h9 => absurd h9 hc) (fun h8 => k)) (kf hc)
theorem ks_icmp_le {pc' tgt : Nat} {x y : Int32} {off : Int} (hd : decode M.2.1 pc = .ok (.if_icmp .le off, 3)) (ht : (pc : Int) + off = (tgt : Int)) (hp : pc + 3 = pc') (kt : x ≤ y → ks_X l G M d tgt lv st S P) (kf : ¬ x ≤ y → ks_X l G M d pc' lv st S P) : ks_X l G M d pc lv (.int y :: .int x :: st) S P := by
  subst hp
  by_cases hc : x ≤ y
  · exact ks_pure (fun p e R s m args below meth c H locs cells slots ls Q C hl k => lv_icmp_le C.1 C.2.1 hd ht (fun h9 => k) (fun h8 => absurd hc h8)) (kt hc)
  · exact ks_pure (fun p e R s m args below meth c H locs cells slots ls Q C hl k => lv_icmp_le C.1 C.2.1 hd ht (fun h9 => absurd h9 hc) (fun h8 => k)) (kf hc)
theorem ks_goto {tgt : Nat} {off : Int} (hd : decode M.2.1 pc = .ok (.goto off, 3)) (ht : (pc : Int) + off = (tgt : Int)) (k : ks_X l G M d tgt lv st S P) : ks_X l G M d pc lv st S P :=
  ks_pure (fun p e R s m args below meth c H locs cells slots ls Q C hl k => lv_goto C.1 C.2.1 hd ht k) k
theorem ks_ifnonnull {tgt x : Nat} {off : Int} (hd : decode M.2.1 pc = .ok (.ifnonnull off, 3)) (ht : (pc : Int) + off = (tgt : Int)) (k : ks_X l G M d tgt lv st S P) : ks_X l G M d pc lv (.ref x :: st) S P :=
  ks_pure (fun p e R s m args below meth c H locs cells slots ls Q C hl k => lv_ifnonnull C.1 C.2.1 hd ht k) k
theorem ks_ifnonnullN {pc' : Nat} {off : Int} (hd : decode M.2.1 pc = .ok (.ifnonnull off, 3)) (hp : pc + 3 = pc') (k : ks_X l G M d pc' lv st S P) : ks_X l G M d pc lv (.null :: st) S P := by
  subst hp
  exact ks_pure (fun p e R s m args below meth c H locs cells slots ls Q C hl k => lv_ifnonnullN C.1 C.2.1 hd k) k
theorem ks_ifnull {pc' x : Nat} {off : Int} (hd : decode M.2.1 pc = .ok (.ifnull off, 3)) (hp : pc + 3 = pc') (k : ks_X l G M d pc' lv st S P) : ks_X l G M d pc lv (.ref x :: st) S P := by
  subst hp
  exact ks_pure (fun p e R s m args below meth c H locs cells slots ls Q C hl k => lv_ifnull C.1 C.2.1 hd k) k
theorem ks_ifnullN {tgt : Nat} {off : Int} (hd : decode M.2.1 pc = .ok (.ifnull off, 3)) (ht : (pc : Int) + off = (tgt : Int)) (k : ks_X l G M d tgt lv st S P) : ks_X l G M d pc lv (.null :: st) S P :=
  ks_pure (fun p e R s m args below meth c H locs cells slots ls Q C hl k => lv_ifnullN C.1 C.2.1 hd ht k) k
theorem ks_tableOut {tgt len : Nat} {x : Int32} {dflt lo hi : Int} {offs : Array Int} (hd : decode M.2.1 pc = .ok (.tableswitch dflt lo hi offs, len)) (h : x.toInt < lo ∨ hi < x.toInt) (ht : (pc : Int) + dflt = (tgt : Int)) (k : ks_X l G M d tgt lv st S P) : ks_X l G M d pc lv (.int x :: st) S P :=
  ks_pure (fun p e R s m args below meth c H locs cells slots ls Q C hl k => lv_tableOut C.1 C.2.1 hd h ht k) k
theorem ks_tableIn {tgt len : Nat} {x : Int32} {dflt lo hi off : Int} {offs : Array Int} (hd : decode M.2.1 pc = .ok (.tableswitch dflt lo hi offs, len)) (h1 : ¬ x.toInt < lo) (h2 : ¬ hi < x.toInt) (ho : offs[(x.toInt - lo).toNat]? = some off) (ht : (pc : Int) + off = (tgt : Int)) (k : ks_X l G M d tgt lv st S P) : ks_X l G M d pc lv (.int x :: st) S P :=
  ks_pure (fun p e R s m args below meth c H locs cells slots ls Q C hl k => lv_tableIn C.1 C.2.1 hd h1 h2 ho ht k) k
theorem ks_lookup {tgt len : Nat} {x : Int32} {dflt off : Int} {ps : Array (Int × Int)} (hd : decode M.2.1 pc = .ok (.lookupswitch dflt ps, len)) (hpp : (ps.toList.zip (ps.toList.drop 1)).all (fun (a, next) => a.1 < next.1) = true) (ho : Op.lookupswitch.offset ps.toList dflt x.toInt = off) (ht : (pc : Int) + off = (tgt : Int)) (k : ks_X l G M d tgt lv st S P) : ks_X l G M d pc lv (.int x :: st) S P :=
  ks_pure (fun p e R s m args below meth c H locs cells slots ls Q C hl k => lv_lookup C.1 C.2.1 hd hpp ho ht k) k
end KsR
