/-! THE LAW'S JUDGEMENT: as ks_X, of a method whose calls may throw, where it catches -/
/-- none of the four classes of throws is another's -/
def ks_N (U : State) : Prop := va_Nc "java/lang/IndexOutOfBoundsException" "java/lang/IllegalArgumentException" U ∧ va_Nc "java/lang/IndexOutOfBoundsException" "java/lang/IllegalStateException" U ∧ va_Nc "java/lang/IllegalStateException" "java/lang/IllegalArgumentException" U ∧ va_Nc "java/lang/IndexOutOfBoundsException" "java/lang/UnsupportedOperationException" U
theorem ks_N.moved {u U : State} (hvm : u.vm.Alike U.vm) (h : ks_N u) : ks_N U := ⟨h.1.moved hvm, h.2.1.moved hvm, h.2.2.1.moved hvm, h.2.2.2.moved hvm⟩
/-- the handlers; the script's length and one more, its numbers (0: there is none) -/
abbrev KH : Type := List (Nat × Nat × Nat × Nat) × Nat × (Nat → Int32)
/-- the script's name -/
def ks_sc : Nat := ks_B + 1000
def ks_SC (G : ks_G) (hh : KH) (s : State) : Prop := hh.2.1 ≠ 0 → va_X (G.2.2.2 1000) (hh.2.1 - 1) hh.2.2 s s.heap ∧ G.2.2.2 1000 < s.heap.size ∧ ¬ ks_A G (G.2.2.2 1000)
def ks_HL (l : Launch) (G : ks_G) (hh : KH) (s : State) (c : Code) : Prop := l.stackTraces = false ∧ c.exceptionTable.toList = tableOf hh.1 ∧ ks_U G s s.heap ∧ ks_N s ∧ ks_SC G hh s
def ks_VL (l : Launch) (G : ks_G) (hh : KH) (M : ks_M) (d pc : Nat) (lv : List (Nat × Value)) (st : List Value) (S : ks_S) (v : Option Value) (S' : ks_S) : Prop :=
  (S.1 ≤ S'.1 ∧ S.2.1 ≤ S'.2.1) ∧
  ∀ (p : Program) (e : Env) (R : Room) (s : State) (m : MethodId) (args : Array Value) (below : List Frame) (meth : Method) (c : Code) (H : Heap) (locs : List Loc) (cells slots : Nat) (ls : Array Slot),
    ks_C G M d p R s m args meth c → ks_H G S s H → va_S (ks_A G) s.heap H locs → lv_has ls M.2.2.1 (lv.map (ks_q G)) →
    cells + (S'.1 - S.1) = R.cells → slots + (S'.2.1 - S.2.1) = R.slots →
    W p l e R s m args below meth c H locs cells slots (fun t => ks_HL l G hh s c → MQ below (ks_Q G v S') args s R.cells R.slots (ks_A G) t) (F0 m pc ls (st.map (ks_v G)))
def ks_L (l : Launch) (G : ks_G) (hh : KH) (M : ks_M) (d pc : Nat) (lv : List (Nat × Value)) (st : List Value) (S : ks_S) (P : Option Value → ks_S → Prop) : Prop :=
  ∃ (v : Option Value) (S' : ks_S), ks_VL l G hh M d pc lv st S v S' ∧ P v S'
theorem ks_X.law {l : Launch} {G : ks_G} {hh : KH} {M : ks_M} {d pc : Nat} {lv : List (Nat × Value)} {st : List Value} {S : ks_S} {P : Option Value → ks_S → Prop} (h : ks_X l G M d pc lv st S P) : ks_L l G hh M d pc lv st S P := by
  obtain ⟨v, S', ⟨hm, hV⟩, hP⟩ := h
  refine ⟨v, S', ⟨hm, fun p e R s m args below meth c H locs cells slots ls CC hH hS hl h1 h2 => ?_⟩, hP⟩
  intro T hT X
  obtain ⟨t, a1, b1⟩ := hV p e R s m args below meth c H locs cells slots ls CC hH hS hl h1 h2 T hT X
  exact ⟨t, a1, fun _ => b1⟩
theorem ks_L.mono {l : Launch} {G : ks_G} {hh : KH} {M : ks_M} {d pc : Nat} {lv : List (Nat × Value)} {st : List Value} {S : ks_S} {P P' : Option Value → ks_S → Prop} (h : ks_L l G hh M d pc lv st S P) (hp : ∀ v S', P v S' → P' v S') : ks_L l G hh M d pc lv st S P' := by
  obtain ⟨v, S', a, b⟩ := h
  exact ⟨v, S', a, hp v S' b⟩
section KsLL
variable {l : Launch} {G : ks_G} {hh : KH} {M : ks_M} {d pc pc' : Nat} {lv lv' : List (Nat × Value)} {st st' : List Value} {S : ks_S} {P : Option Value → ks_S → Prop}
theorem kl_pure (h : ∀ (p : Program) (e : Env) (R : Room) (s : State) (m : MethodId) (args : Array Value) (below : List Frame) (meth : Method) (c : Code) (H : Heap) (locs : List Loc) (cells slots : Nat) (ls : Array Slot) (Q : State → Prop),
      ks_C G M d p R s m args meth c → lv_has ls M.2.2.1 (lv.map (ks_q G)) → W p l e R s m args below meth c H locs cells slots Q (F0 m pc' ls (st'.map (ks_v G))) → W p l e R s m args below meth c H locs cells slots Q (F0 m pc ls (st.map (ks_v G))))
    (k : ks_L l G hh M d pc' lv st' S P) : ks_L l G hh M d pc lv st S P := by
  obtain ⟨v, S', ⟨hm, hV⟩, hP⟩ := k
  exact ⟨v, S', ⟨hm, fun p e R s m args below meth c H locs cells slots ls C hH hS hl h1 h2 => h p e R s m args below meth c H locs cells slots ls _ C hl (hV p e R s m args below meth c H locs cells slots ls C hH hS hl h1 h2)⟩, hP⟩
theorem kl_local (h : ∀ (p : Program) (e : Env) (R : Room) (s : State) (m : MethodId) (args : Array Value) (below : List Frame) (meth : Method) (c : Code) (H : Heap) (locs : List Loc) (cells slots : Nat) (ls : Array Slot) (Q : State → Prop),
      ks_C G M d p R s m args meth c → lv_has ls M.2.2.1 (lv.map (ks_q G)) → (∀ ls' : Array Slot, lv_has ls' M.2.2.1 (lv'.map (ks_q G)) → W p l e R s m args below meth c H locs cells slots Q (F0 m pc' ls' (st'.map (ks_v G)))) → W p l e R s m args below meth c H locs cells slots Q (F0 m pc ls (st.map (ks_v G))))
    (k : ks_L l G hh M d pc' lv' st' S P) : ks_L l G hh M d pc lv st S P := by
  obtain ⟨v, S', ⟨hm, hV⟩, hP⟩ := k
  exact ⟨v, S', ⟨hm, fun p e R s m args below meth c H locs cells slots ls C hH hS hl h1 h2 => h p e R s m args below meth c H locs cells slots ls _ C hl (fun ls' hl' => hV p e R s m args below meth c H locs cells slots ls' C hH hS hl' h1 h2)⟩, hP⟩
theorem kl_sub (lv' : List (Nat × Value)) (h : lv'.map (fun q => ks_get lv q.1) = lv'.map (fun q => some q.2)) (k : ks_L l G hh M d pc lv' st S P) : ks_L l G hh M d pc lv st S P := by
  obtain ⟨v, S', ⟨hm, hV⟩, hP⟩ := k
  refine ⟨v, S', ⟨hm, fun p e R s m args below meth c H locs cells slots ls C hH hS hl h1 h2 => hV p e R s m args below meth c H locs cells slots ls C hH hS ⟨hl.1, hl.2.1, fun q hq => ?_⟩ h1 h2⟩, hP⟩
  obtain ⟨z, hz, rfl⟩ := List.mem_map.mp hq
  obtain ⟨i, hi⟩ := List.getElem?_of_mem hz
  have h3 : (lv'.map (fun q => ks_get lv q.1))[i]? = (lv'.map (fun q => some q.2))[i]? := by rw [h]
  rw [List.getElem?_map, List.getElem?_map, hi] at h3
  exact ks_has hl (Option.some.inj h3)
end KsLL

section KsRL
variable {l : Launch} {G : ks_G} {hh : KH} {M : ks_M} {d pc : Nat} {lv : List (Nat × Value)} {st : List Value} {S : ks_S} {P : Option Value → ks_S → Prop}
theorem kl_iconst {pc' : Nat} {n : Int} {x : Int32} (hd : decode M.2.1 pc = .ok (.iconst n, 1)) (hv : Int32.ofInt n = x) (hp : pc + 1 = pc') (k : ks_L l G hh M d pc' lv (.int x :: st) S P) : ks_L l G hh M d pc lv (st) S P := by
  subst hp
  exact kl_pure (fun p e R s m args below meth c H locs cells slots ls Q C hl k => lv_iconst C.1 C.2.1 hd hv k) k
theorem kl_bipush {pc' : Nat} {n : Int} {x : Int32} (hd : decode M.2.1 pc = .ok (.bipush n, 2)) (hv : (Int8.ofInt n).toInt32 = x) (hp : pc + 2 = pc') (k : ks_L l G hh M d pc' lv (.int x :: st) S P) : ks_L l G hh M d pc lv (st) S P := by
  subst hp
  exact kl_pure (fun p e R s m args below meth c H locs cells slots ls Q C hl k => lv_bipush C.1 C.2.1 hd hv k) k
theorem kl_sipush {pc' : Nat} {n : Int} {x : Int32} (hd : decode M.2.1 pc = .ok (.sipush n, 3)) (hv : (Int16.ofInt n).toInt32 = x) (hp : pc + 3 = pc') (k : ks_L l G hh M d pc' lv (.int x :: st) S P) : ks_L l G hh M d pc lv (st) S P := by
  subst hp
  exact kl_pure (fun p e R s m args below meth c H locs cells slots ls Q C hl k => lv_sipush C.1 C.2.1 hd hv k) k
theorem kl_lconst {pc' : Nat} {n : Fin 2} {x : Int64} (hd : decode M.2.1 pc = .ok (.lconst n, 1)) (hv : Int64.ofNat (n : Nat) = x) (hp : pc + 1 = pc') (k : ks_L l G hh M d pc' lv (.long x :: st) S P) : ks_L l G hh M d pc lv (st) S P := by
  subst hp
  exact kl_pure (fun p e R s m args below meth c H locs cells slots ls Q C hl k => lv_lconst C.1 C.2.1 hd hv k) k
theorem kl_null {pc' : Nat}  (hd : decode M.2.1 pc = .ok (.aconst_null, 1))  (hp : pc + 1 = pc') (k : ks_L l G hh M d pc' lv (.null :: st) S P) : ks_L l G hh M d pc lv (st) S P := by
  subst hp
  exact kl_pure (fun p e R s m args below meth c H locs cells slots ls Q C hl k => lv_null C.1 C.2.1 hd k) k
theorem kl_ldc {pc' : Nat} {ix : Nat} {x : Int32} (hd : decode M.2.1 pc = .ok (.ldc ix, 2)) (hw : Cond.constant M.1 ix x ∈ lw_tbl) (hp : pc + 2 = pc') (k : ks_L l G hh M d pc' lv (.int x :: st) S P) : ks_L l G hh M d pc lv (st) S P := by
  subst hp
  exact kl_pure (fun p e R s m args below meth c H locs cells slots ls Q C hl k => lv_ldc C.1 C.2.1 C.2.2.2.2.1 (C.2.2.2.2.2.1 _ hw rfl) hd k) k
theorem kl_ldcw {pc' : Nat} {ix : Nat} {x : Int32} (hd : decode M.2.1 pc = .ok (.ldc_w ix, 3)) (hw : Cond.constant M.1 ix x ∈ lw_tbl) (hp : pc + 3 = pc') (k : ks_L l G hh M d pc' lv (.int x :: st) S P) : ks_L l G hh M d pc lv (st) S P := by
  subst hp
  exact kl_pure (fun p e R s m args below meth c H locs cells slots ls Q C hl k => lv_ldcw C.1 C.2.1 C.2.2.2.2.1 (C.2.2.2.2.2.1 _ hw rfl) hd k) k
theorem kl_ldc2 {pc' : Nat} {ix : Nat} {x : Int64} (hd : decode M.2.1 pc = .ok (.ldc2_w ix, 3)) (hw : Cond.constantLong M.1 ix x ∈ lw_tbl) (hp : pc + 3 = pc') (k : ks_L l G hh M d pc' lv (.long x :: st) S P) : ks_L l G hh M d pc lv (st) S P := by
  subst hp
  exact kl_pure (fun p e R s m args below meth c H locs cells slots ls Q C hl k => lv_ldc2 C.1 C.2.1 C.2.2.2.2.1 (C.2.2.2.2.2.1 _ hw rfl) hd k) k
theorem kl_iload_n {pc' : Nat} {k4 : Fin 4} {x : Int32} (hd : decode M.2.1 pc = .ok (.iload_n k4, 1)) (hg : ks_get lv (k4 : Nat) = some (.int x)) (hp : pc + 1 = pc') (k : ks_L l G hh M d pc' lv (.int x :: st) S P) : ks_L l G hh M d pc lv (st) S P := by
  subst hp
  exact kl_pure (fun p e R s m args below meth c H locs cells slots ls Q C hl k => lv_iload_n C.1 C.2.1 hd rfl (ks_has hl hg) k) k
theorem kl_iload {pc' : Nat} {i : Nat} {x : Int32} (hd : decode M.2.1 pc = .ok (.iload i, 2)) (hg : ks_get lv i = some (.int x)) (hp : pc + 2 = pc') (k : ks_L l G hh M d pc' lv (.int x :: st) S P) : ks_L l G hh M d pc lv (st) S P := by
  subst hp
  exact kl_pure (fun p e R s m args below meth c H locs cells slots ls Q C hl k => lv_iload C.1 C.2.1 hd (ks_has hl hg) k) k
theorem kl_lload_n {pc' : Nat} {k4 : Fin 4} {x : Int64} (hd : decode M.2.1 pc = .ok (.lload_n k4, 1)) (hg : ks_get lv (k4 : Nat) = some (.long x)) (hp : pc + 1 = pc') (k : ks_L l G hh M d pc' lv (.long x :: st) S P) : ks_L l G hh M d pc lv (st) S P := by
  subst hp
  exact kl_pure (fun p e R s m args below meth c H locs cells slots ls Q C hl k => lv_lload_n C.1 C.2.1 hd rfl (ks_has hl hg) k) k
theorem kl_lload {pc' : Nat} {i : Nat} {x : Int64} (hd : decode M.2.1 pc = .ok (.lload i, 2)) (hg : ks_get lv i = some (.long x)) (hp : pc + 2 = pc') (k : ks_L l G hh M d pc' lv (.long x :: st) S P) : ks_L l G hh M d pc lv (st) S P := by
  subst hp
  exact kl_pure (fun p e R s m args below meth c H locs cells slots ls Q C hl k => lv_lload C.1 C.2.1 hd (ks_has hl hg) k) k
theorem kl_aload_n {pc' : Nat} {k4 : Fin 4} {x : Nat} (hd : decode M.2.1 pc = .ok (.aload_n k4, 1)) (hg : ks_get lv (k4 : Nat) = some (.ref x)) (hp : pc + 1 = pc') (k : ks_L l G hh M d pc' lv (.ref x :: st) S P) : ks_L l G hh M d pc lv (st) S P := by
  subst hp
  exact kl_pure (fun p e R s m args below meth c H locs cells slots ls Q C hl k => lv_aload_n C.1 C.2.1 hd rfl (ks_has hl hg) k) k
theorem kl_aload {pc' : Nat} {i : Nat} {x : Nat} (hd : decode M.2.1 pc = .ok (.aload i, 2)) (hg : ks_get lv i = some (.ref x)) (hp : pc + 2 = pc') (k : ks_L l G hh M d pc' lv (.ref x :: st) S P) : ks_L l G hh M d pc lv (st) S P := by
  subst hp
  exact kl_pure (fun p e R s m args below meth c H locs cells slots ls Q C hl k => lv_aload C.1 C.2.1 hd (ks_has hl hg) k) k
theorem kl_aload_nN {pc' : Nat} {k4 : Fin 4} (hd : decode M.2.1 pc = .ok (.aload_n k4, 1)) (hg : ks_get lv (k4 : Nat) = some .null) (hp : pc + 1 = pc') (k : ks_L l G hh M d pc' lv (.null :: st) S P) : ks_L l G hh M d pc lv (st) S P := by
  subst hp
  exact kl_pure (fun p e R s m args below meth c H locs cells slots ls Q C hl k => lv_aload_nN C.1 C.2.1 hd rfl (ks_has hl hg) k) k
theorem kl_aloadN {pc' : Nat} {i : Nat} (hd : decode M.2.1 pc = .ok (.aload i, 2)) (hg : ks_get lv i = some .null) (hp : pc + 2 = pc') (k : ks_L l G hh M d pc' lv (.null :: st) S P) : ks_L l G hh M d pc lv (st) S P := by
  subst hp
  exact kl_pure (fun p e R s m args below meth c H locs cells slots ls Q C hl k => lv_aloadN C.1 C.2.1 hd (ks_has hl hg) k) k
theorem kl_istore_n {pc' : Nat} {k4 : Fin 4} {x : Int32} (hd : decode M.2.1 pc = .ok (.istore_n k4, 1)) (hn : (k4 : Nat) < M.2.2.1) (hp : pc + 1 = pc') (k : ks_L l G hh M d pc' (ks_put1 lv (k4 : Nat) (.int x)) st S P) : ks_L l G hh M d pc lv (.int x :: st) S P := by
  subst hp
  exact kl_local (fun p e R s m args below meth c H locs cells slots ls Q C hl k => lv_istore_n C.1 C.2.1 hd rfl hl hn (ks_put1_map G lv _ (.int x)) k) k
theorem kl_istore {pc' : Nat} {i : Nat} {x : Int32} (hd : decode M.2.1 pc = .ok (.istore i, 2)) (hn : i < M.2.2.1) (hp : pc + 2 = pc') (k : ks_L l G hh M d pc' (ks_put1 lv i (.int x)) st S P) : ks_L l G hh M d pc lv (.int x :: st) S P := by
  subst hp
  exact kl_local (fun p e R s m args below meth c H locs cells slots ls Q C hl k => lv_istore C.1 C.2.1 hd hl hn (ks_put1_map G lv _ (.int x)) k) k
theorem kl_lstore_n {pc' : Nat} {k4 : Fin 4} {x : Int64} (hd : decode M.2.1 pc = .ok (.lstore_n k4, 1)) (hn : (k4 : Nat) + 1 < M.2.2.1) (hp : pc + 1 = pc') (k : ks_L l G hh M d pc' (ks_put2 lv (k4 : Nat) (.long x)) st S P) : ks_L l G hh M d pc lv (.long x :: st) S P := by
  subst hp
  exact kl_local (fun p e R s m args below meth c H locs cells slots ls Q C hl k => lv_lstore_n C.1 C.2.1 hd rfl hl hn (ks_put2_map G lv _ (.long x)) k) k
theorem kl_lstore {pc' : Nat} {i : Nat} {x : Int64} (hd : decode M.2.1 pc = .ok (.lstore i, 2)) (hn : i + 1 < M.2.2.1) (hp : pc + 2 = pc') (k : ks_L l G hh M d pc' (ks_put2 lv i (.long x)) st S P) : ks_L l G hh M d pc lv (.long x :: st) S P := by
  subst hp
  exact kl_local (fun p e R s m args below meth c H locs cells slots ls Q C hl k => lv_lstore C.1 C.2.1 hd hl hn (ks_put2_map G lv _ (.long x)) k) k
theorem kl_astore_n {pc' : Nat} {k4 : Fin 4} {x : Nat} (hd : decode M.2.1 pc = .ok (.astore_n k4, 1)) (hn : (k4 : Nat) < M.2.2.1) (hp : pc + 1 = pc') (k : ks_L l G hh M d pc' (ks_put1 lv (k4 : Nat) (.ref x)) st S P) : ks_L l G hh M d pc lv (.ref x :: st) S P := by
  subst hp
  exact kl_local (fun p e R s m args below meth c H locs cells slots ls Q C hl k => lv_astore_n C.1 C.2.1 hd rfl hl hn (ks_put1_map G lv _ (.ref x)) k) k
theorem kl_astore {pc' : Nat} {i : Nat} {x : Nat} (hd : decode M.2.1 pc = .ok (.astore i, 2)) (hn : i < M.2.2.1) (hp : pc + 2 = pc') (k : ks_L l G hh M d pc' (ks_put1 lv i (.ref x)) st S P) : ks_L l G hh M d pc lv (.ref x :: st) S P := by
  subst hp
  exact kl_local (fun p e R s m args below meth c H locs cells slots ls Q C hl k => lv_astore C.1 C.2.1 hd hl hn (ks_put1_map G lv _ (.ref x)) k) k
theorem kl_astore_nN {pc' : Nat} {k4 : Fin 4} (hd : decode M.2.1 pc = .ok (.astore_n k4, 1)) (hn : (k4 : Nat) < M.2.2.1) (hp : pc + 1 = pc') (k : ks_L l G hh M d pc' (ks_put1 lv (k4 : Nat) .null) st S P) : ks_L l G hh M d pc lv (.null :: st) S P := by
  subst hp
  exact kl_local (fun p e R s m args below meth c H locs cells slots ls Q C hl k => lv_astore_nN C.1 C.2.1 hd rfl hl hn (ks_put1_map G lv _ .null) k) k
theorem kl_astoreN {pc' : Nat} {i : Nat} (hd : decode M.2.1 pc = .ok (.astore i, 2)) (hn : i < M.2.2.1) (hp : pc + 2 = pc') (k : ks_L l G hh M d pc' (ks_put1 lv i .null) st S P) : ks_L l G hh M d pc lv (.null :: st) S P := by
  subst hp
  exact kl_local (fun p e R s m args below meth c H locs cells slots ls Q C hl k => lv_astoreN C.1 C.2.1 hd hl hn (ks_put1_map G lv _ .null) k) k
theorem kl_iinc {pc' : Nat} {i : Nat} {n : Int} {x y : Int32} (hd : decode M.2.1 pc = .ok (.iinc i n, 3)) (hg : ks_get lv i = some (.int x)) (hy : x + Int32.ofInt n = y) (hn : i < M.2.2.1) (hp : pc + 3 = pc') (k : ks_L l G hh M d pc' (ks_put1 lv i (.int y)) st S P) : ks_L l G hh M d pc lv st S P := by
  subst hp
  obtain ⟨j, hj⟩ := List.getElem?_of_mem (ks_get_mem hg)
  exact kl_local (fun p e R s m args below meth c H locs cells slots ls Q C hl k => lv_iinc C.1 C.2.1 hd hl (k := j) (x := x) (by rw [List.getElem?_map, hj]; rfl) hy hn (ks_put1_map G lv _ (.int y)) k) k
theorem kl_iadd {pc' : Nat} {x y : Int32} (hd : decode M.2.1 pc = .ok (.iadd, 1))  (hp : pc + 1 = pc') (k : ks_L l G hh M d pc' lv (.int (x + y) :: st) S P) : ks_L l G hh M d pc lv (.int y :: .int x :: st) S P := by
  subst hp
  exact kl_pure (fun p e R s m args below meth c H locs cells slots ls Q C hl k => lv_iadd C.1 C.2.1 hd k) k
theorem kl_isub {pc' : Nat} {x y : Int32} (hd : decode M.2.1 pc = .ok (.isub, 1))  (hp : pc + 1 = pc') (k : ks_L l G hh M d pc' lv (.int (x - y) :: st) S P) : ks_L l G hh M d pc lv (.int y :: .int x :: st) S P := by
  subst hp
  exact kl_pure (fun p e R s m args below meth c H locs cells slots ls Q C hl k => lv_isub C.1 C.2.1 hd k) k
theorem kl_imul {pc' : Nat} {x y : Int32} (hd : decode M.2.1 pc = .ok (.imul, 1))  (hp : pc + 1 = pc') (k : ks_L l G hh M d pc' lv (.int (x * y) :: st) S P) : ks_L l G hh M d pc lv (.int y :: .int x :: st) S P := by
  subst hp
  exact kl_pure (fun p e R s m args below meth c H locs cells slots ls Q C hl k => lv_imul C.1 C.2.1 hd k) k
theorem kl_iand {pc' : Nat} {x y : Int32} (hd : decode M.2.1 pc = .ok (.iand, 1))  (hp : pc + 1 = pc') (k : ks_L l G hh M d pc' lv (.int (x &&& y) :: st) S P) : ks_L l G hh M d pc lv (.int y :: .int x :: st) S P := by
  subst hp
  exact kl_pure (fun p e R s m args below meth c H locs cells slots ls Q C hl k => lv_iand C.1 C.2.1 hd k) k
theorem kl_ior {pc' : Nat} {x y : Int32} (hd : decode M.2.1 pc = .ok (.ior, 1))  (hp : pc + 1 = pc') (k : ks_L l G hh M d pc' lv (.int (x ||| y) :: st) S P) : ks_L l G hh M d pc lv (.int y :: .int x :: st) S P := by
  subst hp
  exact kl_pure (fun p e R s m args below meth c H locs cells slots ls Q C hl k => lv_ior C.1 C.2.1 hd k) k
theorem kl_ixor {pc' : Nat} {x y : Int32} (hd : decode M.2.1 pc = .ok (.ixor, 1))  (hp : pc + 1 = pc') (k : ks_L l G hh M d pc' lv (.int (x ^^^ y) :: st) S P) : ks_L l G hh M d pc lv (.int y :: .int x :: st) S P := by
  subst hp
  exact kl_pure (fun p e R s m args below meth c H locs cells slots ls Q C hl k => lv_ixor C.1 C.2.1 hd k) k
theorem kl_ishl {pc' : Nat} {x y : Int32} (hd : decode M.2.1 pc = .ok (.ishl, 1))  (hp : pc + 1 = pc') (k : ks_L l G hh M d pc' lv (.int (x <<< (y &&& 31)) :: st) S P) : ks_L l G hh M d pc lv (.int y :: .int x :: st) S P := by
  subst hp
  exact kl_pure (fun p e R s m args below meth c H locs cells slots ls Q C hl k => lv_ishl C.1 C.2.1 hd k) k
theorem kl_ishr {pc' : Nat} {x y : Int32} (hd : decode M.2.1 pc = .ok (.ishr, 1))  (hp : pc + 1 = pc') (k : ks_L l G hh M d pc' lv (.int (x >>> (y &&& 31)) :: st) S P) : ks_L l G hh M d pc lv (.int y :: .int x :: st) S P := by
  subst hp
  exact kl_pure (fun p e R s m args below meth c H locs cells slots ls Q C hl k => lv_ishr C.1 C.2.1 hd k) k
theorem kl_iushr {pc' : Nat} {x y : Int32} (hd : decode M.2.1 pc = .ok (.iushr, 1))  (hp : pc + 1 = pc') (k : ks_L l G hh M d pc' lv (.int ((x.toUInt32 >>> (y.toUInt32 &&& Int32.toUInt32 31)).toInt32) :: st) S P) : ks_L l G hh M d pc lv (.int y :: .int x :: st) S P := by
  subst hp
  exact kl_pure (fun p e R s m args below meth c H locs cells slots ls Q C hl k => lv_iushr C.1 C.2.1 hd rfl k) k
theorem kl_idiv {pc' : Nat} {x y : Int32} (hd : decode M.2.1 pc = .ok (.idiv, 1)) (hne : ¬ y = 0) (hp : pc + 1 = pc') (k : ks_L l G hh M d pc' lv (.int (x / y) :: st) S P) : ks_L l G hh M d pc lv (.int y :: .int x :: st) S P := by
  subst hp
  exact kl_pure (fun p e R s m args below meth c H locs cells slots ls Q C hl k => lv_idiv C.1 C.2.1 hd hne k) k
theorem kl_irem {pc' : Nat} {x y : Int32} (hd : decode M.2.1 pc = .ok (.irem, 1)) (hne : ¬ y = 0) (hp : pc + 1 = pc') (k : ks_L l G hh M d pc' lv (.int (x - x / y * y) :: st) S P) : ks_L l G hh M d pc lv (.int y :: .int x :: st) S P := by
  subst hp
  exact kl_pure (fun p e R s m args below meth c H locs cells slots ls Q C hl k => lv_irem C.1 C.2.1 hd hne k) k
theorem kl_ineg {pc' : Nat} {x : Int32} (hd : decode M.2.1 pc = .ok (.ineg, 1))  (hp : pc + 1 = pc') (k : ks_L l G hh M d pc' lv (.int (-x) :: st) S P) : ks_L l G hh M d pc lv (.int x :: st) S P := by
  subst hp
  exact kl_pure (fun p e R s m args below meth c H locs cells slots ls Q C hl k => lv_ineg C.1 C.2.1 hd k) k
theorem kl_ladd {pc' : Nat} {x y : Int64} (hd : decode M.2.1 pc = .ok (.ladd, 1))  (hp : pc + 1 = pc') (k : ks_L l G hh M d pc' lv (.long (x + y) :: st) S P) : ks_L l G hh M d pc lv (.long y :: .long x :: st) S P := by
  subst hp
  exact kl_pure (fun p e R s m args below meth c H locs cells slots ls Q C hl k => lv_ladd C.1 C.2.1 hd k) k
theorem kl_lsub {pc' : Nat} {x y : Int64} (hd : decode M.2.1 pc = .ok (.lsub, 1))  (hp : pc + 1 = pc') (k : ks_L l G hh M d pc' lv (.long (x - y) :: st) S P) : ks_L l G hh M d pc lv (.long y :: .long x :: st) S P := by
  subst hp
  exact kl_pure (fun p e R s m args below meth c H locs cells slots ls Q C hl k => lv_lsub C.1 C.2.1 hd k) k
theorem kl_lmul {pc' : Nat} {x y : Int64} (hd : decode M.2.1 pc = .ok (.lmul, 1))  (hp : pc + 1 = pc') (k : ks_L l G hh M d pc' lv (.long (x * y) :: st) S P) : ks_L l G hh M d pc lv (.long y :: .long x :: st) S P := by
  subst hp
  exact kl_pure (fun p e R s m args below meth c H locs cells slots ls Q C hl k => lv_lmul C.1 C.2.1 hd k) k
theorem kl_land {pc' : Nat} {x y : Int64} (hd : decode M.2.1 pc = .ok (.land, 1))  (hp : pc + 1 = pc') (k : ks_L l G hh M d pc' lv (.long (x &&& y) :: st) S P) : ks_L l G hh M d pc lv (.long y :: .long x :: st) S P := by
  subst hp
  exact kl_pure (fun p e R s m args below meth c H locs cells slots ls Q C hl k => lv_land C.1 C.2.1 hd k) k
theorem kl_lor {pc' : Nat} {x y : Int64} (hd : decode M.2.1 pc = .ok (.lor, 1))  (hp : pc + 1 = pc') (k : ks_L l G hh M d pc' lv (.long (x ||| y) :: st) S P) : ks_L l G hh M d pc lv (.long y :: .long x :: st) S P := by
  subst hp
  exact kl_pure (fun p e R s m args below meth c H locs cells slots ls Q C hl k => lv_lor C.1 C.2.1 hd k) k
theorem kl_lxor {pc' : Nat} {x y : Int64} (hd : decode M.2.1 pc = .ok (.lxor, 1))  (hp : pc + 1 = pc') (k : ks_L l G hh M d pc' lv (.long (x ^^^ y) :: st) S P) : ks_L l G hh M d pc lv (.long y :: .long x :: st) S P := by
  subst hp
  exact kl_pure (fun p e R s m args below meth c H locs cells slots ls Q C hl k => lv_lxor C.1 C.2.1 hd k) k
theorem kl_ldiv {pc' : Nat} {x y : Int64} (hd : decode M.2.1 pc = .ok (.ldiv, 1)) (hne : ¬ y = 0) (hp : pc + 1 = pc') (k : ks_L l G hh M d pc' lv (.long (x / y) :: st) S P) : ks_L l G hh M d pc lv (.long y :: .long x :: st) S P := by
  subst hp
  exact kl_pure (fun p e R s m args below meth c H locs cells slots ls Q C hl k => lv_ldiv C.1 C.2.1 hd hne k) k
theorem kl_lrem {pc' : Nat} {x y : Int64} (hd : decode M.2.1 pc = .ok (.lrem, 1)) (hne : ¬ y = 0) (hp : pc + 1 = pc') (k : ks_L l G hh M d pc' lv (.long (x - x / y * y) :: st) S P) : ks_L l G hh M d pc lv (.long y :: .long x :: st) S P := by
  subst hp
  exact kl_pure (fun p e R s m args below meth c H locs cells slots ls Q C hl k => lv_lrem C.1 C.2.1 hd hne k) k
theorem kl_lneg {pc' : Nat} {x : Int64} (hd : decode M.2.1 pc = .ok (.lneg, 1))  (hp : pc + 1 = pc') (k : ks_L l G hh M d pc' lv (.long (-x) :: st) S P) : ks_L l G hh M d pc lv (.long x :: st) S P := by
  subst hp
  exact kl_pure (fun p e R s m args below meth c H locs cells slots ls Q C hl k => lv_lneg C.1 C.2.1 hd k) k
theorem kl_lcmp {pc' : Nat} {x y : Int64} (hd : decode M.2.1 pc = .ok (.lcmp, 1))  (hp : pc + 1 = pc') (k : ks_L l G hh M d pc' lv (.int (lg_cmp x y) :: st) S P) : ks_L l G hh M d pc lv (.long y :: .long x :: st) S P := by
  subst hp
  exact kl_pure (fun p e R s m args below meth c H locs cells slots ls Q C hl k => W.lcmp C.1 C.2.1 hd k) k
theorem kl_lushr {pc' : Nat} {x : Int64} {y : Int32} (hd : decode M.2.1 pc = .ok (.lushr, 1))  (hp : pc + 1 = pc') (k : ks_L l G hh M d pc' lv (.long ((x.toUInt64 >>> (y.toInt64.toUInt64 &&& Int64.toUInt64 63)).toInt64) :: st) S P) : ks_L l G hh M d pc lv (.int y :: .long x :: st) S P := by
  subst hp
  exact kl_pure (fun p e R s m args below meth c H locs cells slots ls Q C hl k => lv_lushr C.1 C.2.1 hd rfl k) k
theorem kl_lshl {pc' : Nat} {x : Int64} {y : Int32} (hd : decode M.2.1 pc = .ok (.lshl, 1))  (hp : pc + 1 = pc') (k : ks_L l G hh M d pc' lv (.long (x <<< (y.toInt64 &&& 63)) :: st) S P) : ks_L l G hh M d pc lv (.int y :: .long x :: st) S P := by
  subst hp
  exact kl_pure (fun p e R s m args below meth c H locs cells slots ls Q C hl k => lv_lshl C.1 C.2.1 hd rfl k) k
theorem kl_lshr {pc' : Nat} {x : Int64} {y : Int32} (hd : decode M.2.1 pc = .ok (.lshr, 1))  (hp : pc + 1 = pc') (k : ks_L l G hh M d pc' lv (.long (x >>> (y.toInt64 &&& 63)) :: st) S P) : ks_L l G hh M d pc lv (.int y :: .long x :: st) S P := by
  subst hp
  exact kl_pure (fun p e R s m args below meth c H locs cells slots ls Q C hl k => lv_lshr C.1 C.2.1 hd rfl k) k
theorem kl_i2l {pc' : Nat} {x : Int32} (hd : decode M.2.1 pc = .ok (.i2l, 1))  (hp : pc + 1 = pc') (k : ks_L l G hh M d pc' lv (.long x.toInt64 :: st) S P) : ks_L l G hh M d pc lv (.int x :: st) S P := by
  subst hp
  exact kl_pure (fun p e R s m args below meth c H locs cells slots ls Q C hl k => lv_i2l C.1 C.2.1 hd rfl k) k
theorem kl_l2i {pc' : Nat} {x : Int64} (hd : decode M.2.1 pc = .ok (.l2i, 1))  (hp : pc + 1 = pc') (k : ks_L l G hh M d pc' lv (.int x.toInt32 :: st) S P) : ks_L l G hh M d pc lv (.long x :: st) S P := by
  subst hp
  exact kl_pure (fun p e R s m args below meth c H locs cells slots ls Q C hl k => lv_l2i C.1 C.2.1 hd rfl k) k
theorem kl_i2b {pc' : Nat} {x : Int32} (hd : decode M.2.1 pc = .ok (.i2b, 1))  (hp : pc + 1 = pc') (k : ks_L l G hh M d pc' lv (.int x.toInt8.toInt32 :: st) S P) : ks_L l G hh M d pc lv (.int x :: st) S P := by
  subst hp
  exact kl_pure (fun p e R s m args below meth c H locs cells slots ls Q C hl k => lv_i2b C.1 C.2.1 hd rfl k) k
theorem kl_dup {pc' : Nat} {va : Value} (hd : decode M.2.1 pc = .ok (.dup, 1)) (hc : va.category = 1) (hp : pc + 1 = pc') (k : ks_L l G hh M d pc' lv (va :: va :: st) S P) : ks_L l G hh M d pc lv (va :: st) S P := by
  subst hp
  exact kl_pure (fun p e R s m args below meth c H locs cells slots ls Q C hl k => lv_dup C.1 C.2.1 hd ((ks_v_cat G va).trans hc) k) k
theorem kl_pop {pc' : Nat} {va : Value} (hd : decode M.2.1 pc = .ok (.pop, 1)) (hc : va.category = 1) (hp : pc + 1 = pc') (k : ks_L l G hh M d pc' lv (st) S P) : ks_L l G hh M d pc lv (va :: st) S P := by
  subst hp
  exact kl_pure (fun p e R s m args below meth c H locs cells slots ls Q C hl k => lv_pop C.1 C.2.1 hd ((ks_v_cat G va).trans hc) k) k
theorem kl_dup2_11 {pc' : Nat} {va vb : Value} (hd : decode M.2.1 pc = .ok (.dup2, 1)) (hc : va.category = 1) (hc2 : vb.category = 1) (hp : pc + 1 = pc') (k : ks_L l G hh M d pc' lv (va :: vb :: va :: vb :: st) S P) : ks_L l G hh M d pc lv (va :: vb :: st) S P := by
  subst hp
  exact kl_pure (fun p e R s m args below meth c H locs cells slots ls Q C hl k => lv_dup2_11 C.1 C.2.1 hd ((ks_v_cat G va).trans hc) ((ks_v_cat G vb).trans hc2) k) k
theorem kl_dup2_2 {pc' : Nat} {va : Value} (hd : decode M.2.1 pc = .ok (.dup2, 1)) (hc : va.category = 2) (hp : pc + 1 = pc') (k : ks_L l G hh M d pc' lv (va :: va :: st) S P) : ks_L l G hh M d pc lv (va :: st) S P := by
  subst hp
  exact kl_pure (fun p e R s m args below meth c H locs cells slots ls Q C hl k => lv_dup2_2 C.1 C.2.1 hd ((ks_v_cat G va).trans hc) k) k
theorem kl_pop2_2 {pc' : Nat} {va : Value} (hd : decode M.2.1 pc = .ok (.pop2, 1)) (hc : va.category = 2) (hp : pc + 1 = pc') (k : ks_L l G hh M d pc' lv (st) S P) : ks_L l G hh M d pc lv (va :: st) S P := by
  subst hp
  exact kl_pure (fun p e R s m args below meth c H locs cells slots ls Q C hl k => lv_pop2_2 C.1 C.2.1 hd ((ks_v_cat G va).trans hc) k) k
theorem kl_if_eq {pc' tgt : Nat} {x : Int32} {off : Int} (hd : decode M.2.1 pc = .ok (.ifCond .eq off, 3)) (ht : (pc : Int) + off = (tgt : Int)) (hp : pc + 3 = pc') (kt : x = 0 → ks_L l G hh M d tgt lv st S P) (kf : ¬ x = 0 → ks_L l G hh M d pc' lv st S P) : ks_L l G hh M d pc lv (.int x :: st) S P := by
  subst hp
  by_cases hc : x = 0
  · exact kl_pure (fun p e R s m args below meth c H locs cells slots ls Q C hl k => lv_if_eq C.1 C.2.1 hd ht (fun h9 => k) (fun h8 => absurd hc h8)) (kt hc)
  · exact kl_pure (fun p e R s m args below meth c H locs cells slots ls Q C hl k => lv_if_eq C.1 C.2.1 hd ht (fun h9 => absurd h9 hc) (fun h8 => k)) (kf hc)
theorem kl_icmp_eq {pc' tgt : Nat} {x y : Int32} {off : Int} (hd : decode M.2.1 pc = .ok (.if_icmp .eq off, 3)) (ht : (pc : Int) + off = (tgt : Int)) (hp : pc + 3 = pc') (kt : x = y → ks_L l G hh M d tgt lv st S P) (kf : ¬ x = y → ks_L l G hh M d pc' lv st S P) : ks_L l G hh M d pc lv (.int y :: .int x :: st) S P := by
  subst hp
  by_cases hc : x = y
  · exact kl_pure (fun p e R s m args below meth c H locs cells slots ls Q C hl k => lv_icmp_eq C.1 C.2.1 hd ht (fun h9 => k) (fun h8 => absurd hc h8)) (kt hc)
  · exact kl_pure (fun p e R s m args below meth c H locs cells slots ls Q C hl k => lv_icmp_eq C.1 C.2.1 hd ht (fun h9 => absurd h9 hc) (fun h8 => k)) (kf hc)
theorem kl_if_ne {pc' tgt : Nat} {x : Int32} {off : Int} (hd : decode M.2.1 pc = .ok (.ifCond .ne off, 3)) (ht : (pc : Int) + off = (tgt : Int)) (hp : pc + 3 = pc') (kt : ¬ x = 0 → ks_L l G hh M d tgt lv st S P) (kf : x = 0 → ks_L l G hh M d pc' lv st S P) : ks_L l G hh M d pc lv (.int x :: st) S P := by
  subst hp
  by_cases hc : x = 0
  · exact kl_pure (fun p e R s m args below meth c H locs cells slots ls Q C hl k => lv_if_ne C.1 C.2.1 hd ht (fun h9 => absurd hc h9) (fun h8 => k)) (kf hc)
  · exact kl_pure (fun p e R s m args below meth c H locs cells slots ls Q C hl k => lv_if_ne C.1 C.2.1 hd ht (fun h9 => k) (fun h8 => absurd h8 hc)) (kt hc)
theorem kl_icmp_ne {pc' tgt : Nat} {x y : Int32} {off : Int} (hd : decode M.2.1 pc = .ok (.if_icmp .ne off, 3)) (ht : (pc : Int) + off = (tgt : Int)) (hp : pc + 3 = pc') (kt : ¬ x = y → ks_L l G hh M d tgt lv st S P) (kf : x = y → ks_L l G hh M d pc' lv st S P) : ks_L l G hh M d pc lv (.int y :: .int x :: st) S P := by
  subst hp
  by_cases hc : x = y
  · exact kl_pure (fun p e R s m args below meth c H locs cells slots ls Q C hl k => lv_icmp_ne C.1 C.2.1 hd ht (fun h9 => absurd hc h9) (fun h8 => k)) (kf hc)
  · exact kl_pure (fun p e R s m args below meth c H locs cells slots ls Q C hl k => lv_icmp_ne C.1 C.2.1 hd ht (fun h9 => k) (fun h8 => absurd h8 hc)) (kt hc)
theorem kl_if_lt {pc' tgt : Nat} {x : Int32} {off : Int} (hd : decode M.2.1 pc = .ok (.ifCond .lt off, 3)) (ht : (pc : Int) + off = (tgt : Int)) (hp : pc + 3 = pc') (kt : x < 0 → ks_L l G hh M d tgt lv st S P) (kf : ¬ x < 0 → ks_L l G hh M d pc' lv st S P) : ks_L l G hh M d pc lv (.int x :: st) S P := by
  subst hp
  by_cases hc : x < 0
  · exact kl_pure (fun p e R s m args below meth c H locs cells slots ls Q C hl k => lv_if_lt C.1 C.2.1 hd ht (fun h9 => k) (fun h8 => absurd hc h8)) (kt hc)
  · exact kl_pure (fun p e R s m args below meth c H locs cells slots ls Q C hl k => lv_if_lt C.1 C.2.1 hd ht (fun h9 => absurd h9 hc) (fun h8 => k)) (kf hc)
theorem kl_icmp_lt {pc' tgt : Nat} {x y : Int32} {off : Int} (hd : decode M.2.1 pc = .ok (.if_icmp .lt off, 3)) (ht : (pc : Int) + off = (tgt : Int)) (hp : pc + 3 = pc') (kt : x < y → ks_L l G hh M d tgt lv st S P) (kf : ¬ x < y → ks_L l G hh M d pc' lv st S P) : ks_L l G hh M d pc lv (.int y :: .int x :: st) S P := by
  subst hp
  by_cases hc : x < y
  · exact kl_pure (fun p e R s m args below meth c H locs cells slots ls Q C hl k => lv_icmp_lt C.1 C.2.1 hd ht (fun h9 => k) (fun h8 => absurd hc h8)) (kt hc)
  · exact kl_pure (fun p e R s m args below meth c H locs cells slots ls Q C hl k => lv_icmp_lt C.1 C.2.1 hd ht (fun h9 => absurd h9 hc) (fun h8 => k)) (kf hc)
theorem kl_if_ge {pc' tgt : Nat} {x : Int32} {off : Int} (hd : decode M.2.1 pc = .ok (.ifCond .ge off, 3)) (ht : (pc : Int) + off = (tgt : Int)) (hp : pc + 3 = pc') (kt : 0 ≤ x → ks_L l G hh M d tgt lv st S P) (kf : ¬ 0 ≤ x → ks_L l G hh M d pc' lv st S P) : ks_L l G hh M d pc lv (.int x :: st) S P := by
  subst hp
  by_cases hc : 0 ≤ x
  · exact kl_pure (fun p e R s m args below meth c H locs cells slots ls Q C hl k => lv_if_ge C.1 C.2.1 hd ht (fun h9 => k) (fun h8 => absurd hc h8)) (kt hc)
  · exact kl_pure (fun p e R s m args below meth c H locs cells slots ls Q C hl k => lv_if_ge C.1 C.2.1 hd ht (fun h9 => absurd h9 hc) (fun h8 => k)) (kf hc)
theorem kl_icmp_ge {pc' tgt : Nat} {x y : Int32} {off : Int} (hd : decode M.2.1 pc = .ok (.if_icmp .ge off, 3)) (ht : (pc : Int) + off = (tgt : Int)) (hp : pc + 3 = pc') (kt : y ≤ x → ks_L l G hh M d tgt lv st S P) (kf : ¬ y ≤ x → ks_L l G hh M d pc' lv st S P) : ks_L l G hh M d pc lv (.int y :: .int x :: st) S P := by
  subst hp
  by_cases hc : y ≤ x
  · exact kl_pure (fun p e R s m args below meth c H locs cells slots ls Q C hl k => lv_icmp_ge C.1 C.2.1 hd ht (fun h9 => k) (fun h8 => absurd hc h8)) (kt hc)
  · exact kl_pure (fun p e R s m args below meth c H locs cells slots ls Q C hl k => lv_icmp_ge C.1 C.2.1 hd ht (fun h9 => absurd h9 hc) (fun h8 => k)) (kf hc)
theorem kl_if_gt {pc' tgt : Nat} {x : Int32} {off : Int} (hd : decode M.2.1 pc = .ok (.ifCond .gt off, 3)) (ht : (pc : Int) + off = (tgt : Int)) (hp : pc + 3 = pc') (kt : 0 < x → ks_L l G hh M d tgt lv st S P) (kf : ¬ 0 < x → ks_L l G hh M d pc' lv st S P) : ks_L l G hh M d pc lv (.int x :: st) S P := by
  subst hp
  by_cases hc : 0 < x
  · exact kl_pure (fun p e R s m args below meth c H locs cells slots ls Q C hl k => lv_if_gt C.1 C.2.1 hd ht (fun h9 => k) (fun h8 => absurd hc h8)) (kt hc)
  · exact kl_pure (fun p e R s m args below meth c H locs cells slots ls Q C hl k => lv_if_gt C.1 C.2.1 hd ht (fun h9 => absurd h9 hc) (fun h8 => k)) (kf hc)
theorem kl_icmp_gt {pc' tgt : Nat} {x y : Int32} {off : Int} (hd : decode M.2.1 pc = .ok (.if_icmp .gt off, 3)) (ht : (pc : Int) + off = (tgt : Int)) (hp : pc + 3 = pc') (kt : y < x → ks_L l G hh M d tgt lv st S P) (kf : ¬ y < x → ks_L l G hh M d pc' lv st S P) : ks_L l G hh M d pc lv (.int y :: .int x :: st) S P := by
  subst hp
  by_cases hc : y < x
  · exact kl_pure (fun p e R s m args below meth c H locs cells slots ls Q C hl k => lv_icmp_gt C.1 C.2.1 hd ht (fun h9 => k) (fun h8 => absurd hc h8)) (kt hc)
  · exact kl_pure (fun p e R s m args below meth c H locs cells slots ls Q C hl k => lv_icmp_gt C.1 C.2.1 hd ht (fun h9 => absurd h9 hc) (fun h8 => k)) (kf hc)
theorem kl_if_le {pc' tgt : Nat} {x : Int32} {off : Int} (hd : decode M.2.1 pc = .ok (.ifCond .le off, 3)) (ht : (pc : Int) + off = (tgt : Int)) (hp : pc + 3 = pc') (kt : x ≤ 0 → ks_L l G hh M d tgt lv st S P) (kf : ¬ x ≤ 0 → ks_L l G hh M d pc' lv st S P) : ks_L l G hh M d pc lv (.int x :: st) S P := by
  subst hp
  by_cases hc : x ≤ 0
  · exact kl_pure (fun p e R s m args below meth c H locs cells slots ls Q C hl k => lv_if_le C.1 C.2.1 hd ht (fun h9 => k) (fun h8 => absurd hc h8)) (kt hc)
  · exact kl_pure (fun p e R s m args below meth c H locs cells slots ls Q C hl k => lv_if_le C.1 C.2.1 hd ht (fun h9 => absurd h9 hc) (fun h8 => k)) (kf hc)
theorem kl_icmp_le {pc' tgt : Nat} {x y : Int32} {off : Int} (hd : decode M.2.1 pc = .ok (.if_icmp .le off, 3)) (ht : (pc : Int) + off = (tgt : Int)) (hp : pc + 3 = pc') (kt : x ≤ y → ks_L l G hh M d tgt lv st S P) (kf : ¬ x ≤ y → ks_L l G hh M d pc' lv st S P) : ks_L l G hh M d pc lv (.int y :: .int x :: st) S P := by
  subst hp
  by_cases hc : x ≤ y
  · exact kl_pure (fun p e R s m args below meth c H locs cells slots ls Q C hl k => lv_icmp_le C.1 C.2.1 hd ht (fun h9 => k) (fun h8 => absurd hc h8)) (kt hc)
  · exact kl_pure (fun p e R s m args below meth c H locs cells slots ls Q C hl k => lv_icmp_le C.1 C.2.1 hd ht (fun h9 => absurd h9 hc) (fun h8 => k)) (kf hc)
theorem kl_goto {tgt : Nat} {off : Int} (hd : decode M.2.1 pc = .ok (.goto off, 3)) (ht : (pc : Int) + off = (tgt : Int)) (k : ks_L l G hh M d tgt lv st S P) : ks_L l G hh M d pc lv st S P :=
  kl_pure (fun p e R s m args below meth c H locs cells slots ls Q C hl k => lv_goto C.1 C.2.1 hd ht k) k
theorem kl_ifnonnull {tgt x : Nat} {off : Int} (hd : decode M.2.1 pc = .ok (.ifnonnull off, 3)) (ht : (pc : Int) + off = (tgt : Int)) (k : ks_L l G hh M d tgt lv st S P) : ks_L l G hh M d pc lv (.ref x :: st) S P :=
  kl_pure (fun p e R s m args below meth c H locs cells slots ls Q C hl k => lv_ifnonnull C.1 C.2.1 hd ht k) k
theorem kl_ifnonnullN {pc' : Nat} {off : Int} (hd : decode M.2.1 pc = .ok (.ifnonnull off, 3)) (hp : pc + 3 = pc') (k : ks_L l G hh M d pc' lv st S P) : ks_L l G hh M d pc lv (.null :: st) S P := by
  subst hp
  exact kl_pure (fun p e R s m args below meth c H locs cells slots ls Q C hl k => lv_ifnonnullN C.1 C.2.1 hd k) k
theorem kl_ifnull {pc' x : Nat} {off : Int} (hd : decode M.2.1 pc = .ok (.ifnull off, 3)) (hp : pc + 3 = pc') (k : ks_L l G hh M d pc' lv st S P) : ks_L l G hh M d pc lv (.ref x :: st) S P := by
  subst hp
  exact kl_pure (fun p e R s m args below meth c H locs cells slots ls Q C hl k => lv_ifnull C.1 C.2.1 hd k) k
theorem kl_ifnullN {tgt : Nat} {off : Int} (hd : decode M.2.1 pc = .ok (.ifnull off, 3)) (ht : (pc : Int) + off = (tgt : Int)) (k : ks_L l G hh M d tgt lv st S P) : ks_L l G hh M d pc lv (.null :: st) S P :=
  kl_pure (fun p e R s m args below meth c H locs cells slots ls Q C hl k => lv_ifnullN C.1 C.2.1 hd ht k) k
theorem kl_tableOut {tgt len : Nat} {x : Int32} {dflt lo hi : Int} {offs : Array Int} (hd : decode M.2.1 pc = .ok (.tableswitch dflt lo hi offs, len)) (h : x.toInt < lo ∨ hi < x.toInt) (ht : (pc : Int) + dflt = (tgt : Int)) (k : ks_L l G hh M d tgt lv st S P) : ks_L l G hh M d pc lv (.int x :: st) S P :=
  kl_pure (fun p e R s m args below meth c H locs cells slots ls Q C hl k => lv_tableOut C.1 C.2.1 hd h ht k) k
theorem kl_tableIn {tgt len : Nat} {x : Int32} {dflt lo hi off : Int} {offs : Array Int} (hd : decode M.2.1 pc = .ok (.tableswitch dflt lo hi offs, len)) (h1 : ¬ x.toInt < lo) (h2 : ¬ hi < x.toInt) (ho : offs[(x.toInt - lo).toNat]? = some off) (ht : (pc : Int) + off = (tgt : Int)) (k : ks_L l G hh M d tgt lv st S P) : ks_L l G hh M d pc lv (.int x :: st) S P :=
  kl_pure (fun p e R s m args below meth c H locs cells slots ls Q C hl k => lv_tableIn C.1 C.2.1 hd h1 h2 ho ht k) k
theorem kl_lookup {tgt len : Nat} {x : Int32} {dflt off : Int} {ps : Array (Int × Int)} (hd : decode M.2.1 pc = .ok (.lookupswitch dflt ps, len)) (hpp : (ps.toList.zip (ps.toList.drop 1)).all (fun (a, next) => a.1 < next.1) = true) (ho : Op.lookupswitch.offset ps.toList dflt x.toInt = off) (ht : (pc : Int) + off = (tgt : Int)) (k : ks_L l G hh M d tgt lv st S P) : ks_L l G hh M d pc lv (.int x :: st) S P :=
  kl_pure (fun p e R s m args below meth c H locs cells slots ls Q C hl k => lv_lookup C.1 C.2.1 hd hpp ho ht k) k
end KsRL

section KsHL
variable {l : Launch} {G : ks_G} {hh : KH} {M : ks_M} {d pc pc' : Nat} {lv : List (Nat × Value)} {st st' : List Value} {S S1 : ks_S} {P : Option Value → ks_S → Prop}
theorem kl_read (h : ∀ (p : Program) (e : Env) (R : Room) (s : State) (m : MethodId) (args : Array Value) (below : List Frame) (meth : Method) (c : Code) (H : Heap) (locs : List Loc) (cells slots : Nat) (ls : Array Slot) (Q : State → Prop),
      ks_C G M d p R s m args meth c → ks_H G S s H → W p l e R s m args below meth c H locs cells slots Q (F0 m pc' ls (st'.map (ks_v G))) → W p l e R s m args below meth c H locs cells slots Q (F0 m pc ls (st.map (ks_v G))))
    (k : ks_L l G hh M d pc' lv st' S P) : ks_L l G hh M d pc lv st S P := by
  obtain ⟨v, S', ⟨hm, hV⟩, hP⟩ := k
  exact ⟨v, S', ⟨hm, fun p e R s m args below meth c H locs cells slots ls C hH hS hl h1 h2 => h p e R s m args below meth c H locs cells slots ls _ C hH (hV p e R s m args below meth c H locs cells slots ls C hH hS hl h1 h2)⟩, hP⟩
theorem kl_write (e1 : S1.1 = S.1) (e2 : S1.2.1 = S.2.1) (h : ∀ (p : Program) (e : Env) (R : Room) (s : State) (m : MethodId) (args : Array Value) (below : List Frame) (meth : Method) (c : Code) (H : Heap) (locs : List Loc) (cells slots : Nat) (ls : Array Slot) (Q : State → Prop),
      ks_C G M d p R s m args meth c → ks_H G S s H → va_S (ks_A G) s.heap H locs → ls.size = M.2.2.1 → (∀ (H1 : Heap) (locs1 : List Loc), ks_H G S1 s H1 → va_S (ks_A G) s.heap H1 locs1 → W p l e R s m args below meth c H1 locs1 cells slots Q (F0 m pc' ls (st'.map (ks_v G)))) → W p l e R s m args below meth c H locs cells slots Q (F0 m pc ls (st.map (ks_v G))))
    (k : ks_L l G hh M d pc' lv st' S1 P) : ks_L l G hh M d pc lv st S P := by
  obtain ⟨v, S', ⟨hm, hV⟩, hP⟩ := k
  rw [e1, e2] at hm
  exact ⟨v, S', ⟨hm, fun p e R s m args below meth c H locs cells slots ls C hH hS hl h1 h2 => h p e R s m args below meth c H locs cells slots ls _ C hH hS hl.1 (fun H1 locs1 hH1 hS1 => hV p e R s m args below meth c H1 locs1 cells slots ls C hH1 hS1 hl (by rw [e1]; exact h1) (by rw [e2]; exact h2))⟩, hP⟩
theorem kl_make {n kc : Nat} (e1 : S1.1 = S.1 + kc) (e2 : S1.2.1 = S.2.1 + n) (h : ∀ (p : Program) (e : Env) (R : Room) (s : State) (m : MethodId) (args : Array Value) (below : List Frame) (meth : Method) (c : Code) (H : Heap) (locs : List Loc) (cells slots : Nat) (ls : Array Slot) (Q : State → Prop),
      ks_C G M d p R s m args meth c → ks_H G S s H → va_S (ks_A G) s.heap H locs → ls.size = M.2.2.1 → cells + kc ≤ R.cells → slots + n ≤ R.slots → (∀ (H1 : Heap), ks_H G S1 s H1 → va_S (ks_A G) s.heap H1 locs → W p l e R s m args below meth c H1 locs (cells + kc) (slots + n) Q (F0 m pc' ls (st'.map (ks_v G)))) → W p l e R s m args below meth c H locs cells slots Q (F0 m pc ls (st.map (ks_v G))))
    (k : ks_L l G hh M d pc' lv st' S1 P) : ks_L l G hh M d pc lv st S P := by
  obtain ⟨v, S', ⟨hm, hV⟩, hP⟩ := k
  rw [e1, e2] at hm
  exact ⟨v, S', ⟨⟨by omega, by omega⟩, fun p e R s m args below meth c H locs cells slots ls C hH hS hl h1 h2 => h p e R s m args below meth c H locs cells slots ls _ C hH hS hl.1 (by omega) (by omega) (fun H1 hH1 hS1 => hV p e R s m args below meth c H1 locs (cells + kc) (slots + n) ls C hH1 hS1 hl (by rw [e1]; omega) (by rw [e2]; omega))⟩, hP⟩
theorem kl_getf {a ci N ix kf : Nat} {C ref : String} {T : u_T} {fs : List Value} {v0 : Value} (hw : Cond.fieldLink M.1 ix ref (T kf).2.1 (T kf).2.2.1 ∈ lw_tbl) (hr : (T kf).1 = ref) (hin : ∀ w ∈ u_ws C T N, w ∈ lw_tbl ∧ goodWord w = true) (hc : vwCl[ci]? = some (C, T, N)) (hk : kf < N) (hS : S.2.2 a = some (.inr (ci, fs))) (hv : fs[kf]? = some v0) (hd : decode M.2.1 pc = .ok (.getfield ix, 3)) (hp : pc + 3 = pc') (k : ks_L l G hh M d pc' lv (v0 :: st) S P) : ks_L l G hh M d pc lv (.ref a :: st) S P := by
  subst hp
  subst hr
  refine kl_read (fun p e R s m args below meth c H locs cells slots ls Q CC hH k => ?_) k
  obtain ⟨h1, h2, h3⟩ := ks_lt hH hS
  show W p l e R s m args below meth c H locs cells slots Q (F0 m pc ls (.ref (ks_ad G a) :: st.map (ks_v G)))
  rw [h2]
  exact va_get (D := G.1) (cl := vwCl) (ws := [(G.2.2.1 + a, .inr (ci, fs.map (ks_v G)))]) (Ts := u_ws C T N) CC.1 CC.2.1 (fun w hw => CC.2.2.2.2.2.1 w (hin w hw).1 (hin w hw).2) (fun _ h => h) CC.2.2.2.2.1 CC.2.2.2.2.2.2.2.2.1.1 (fun j q hq => by
    cases j with
    | zero => cases hq; exact h3
    | succ j => cases hq) 0 rfl hc kf hk (CC.2.2.2.2.2.1 _ hw rfl) (fun _ h9 => h9) (by rw [List.getElem?_map, hv]; rfl) hd k
theorem kl_getN {a ci N ix kf : Nat} {C ref host : String} {T : u_T} {fs : List Value} {v0 : Value} (hw : Cond.fieldLinkNest M.1 ix ref (T kf).2.1 (T kf).2.2.1 host ∈ lw_tbl) (hr : (T kf).1 = ref) (hin : ∀ w ∈ u_ws C T N, w ∈ lw_tbl ∧ goodWord w = true) (hc : vwCl[ci]? = some (C, T, N)) (hk : kf < N) (hS : S.2.2 a = some (.inr (ci, fs))) (hv : fs[kf]? = some v0) (hd : decode M.2.1 pc = .ok (.getfield ix, 3)) (hp : pc + 3 = pc') (k : ks_L l G hh M d pc' lv (v0 :: st) S P) : ks_L l G hh M d pc lv (.ref a :: st) S P := by
  subst hp
  subst hr
  refine kl_read (fun p e R s m args below meth c H locs cells slots ls Q CC hH k => ?_) k
  obtain ⟨h1, h2, h3⟩ := ks_lt hH hS
  show W p l e R s m args below meth c H locs cells slots Q (F0 m pc ls (.ref (ks_ad G a) :: st.map (ks_v G)))
  rw [h2]
  exact va_getN (D := G.1) (cl := vwCl) (ws := [(G.2.2.1 + a, .inr (ci, fs.map (ks_v G)))]) (Ts := u_ws C T N) CC.1 CC.2.1 (fun w hw => CC.2.2.2.2.2.1 w (hin w hw).1 (hin w hw).2) (fun _ h => h) CC.2.2.2.2.1 CC.2.2.2.2.2.2.2.2.1.1 (fun j q hq => by
    cases j with
    | zero => cases hq; exact h3
    | succ j => cases hq) 0 rfl hc kf hk (va_Nw.use rfl (CC.2.2.2.2.2.2.2.2.1.2.1 _ hw rfl)) (fun _ h9 => h9) (by rw [List.getElem?_map, hv]; rfl) hd k
end KsHL

section KsH2L
variable {l : Launch} {G : ks_G} {hh : KH} {M : ks_M} {d pc pc' : Nat} {lv : List (Nat × Value)} {st st' : List Value} {S S1 : ks_S} {P : Option Value → ks_S → Prop}
theorem kl_putf {a ci N ix kf : Nat} {C ref : String} {T : u_T} {ty0 : Nat → FieldType} {ty : FieldType} {fs : List Value} {v0 : Value} (hw : Cond.fieldLink M.1 ix ref (T kf).2.1 (T kf).2.2.1 ∈ lw_tbl) (hr : (T kf).1 = ref) (hin : ∀ w ∈ u_ws C T N, w ∈ lw_tbl ∧ goodWord w = true) (hty : ∀ k, k < N → parseFieldDescriptor (T k).2.2.1 = some (ty0 k)) (hnm : ∀ a, a < N → ∀ b, b < N → a ≠ b → (T a).2.1 ≠ (T b).2.1) (hc : vwCl[ci]? = some (C, T, N)) (hk : kf < N) (hS : S.2.2 a = some (.inr (ci, fs))) (hl : kf < fs.length) (hfin : (T kf).2.2.2 = false) (hd0 : ty0 kf = ty) (hn : narrow ty (ks_v G v0) = ks_v G v0) (hfit : fits ty (ks_v G v0) = true) (hd : decode M.2.1 pc = .ok (.putfield ix, 3)) (hp : pc + 3 = pc') (k : ks_L l G hh M d pc' lv st (ks_set S a (.inr (ci, fs.set kf v0))) P) : ks_L l G hh M d pc lv (v0 :: .ref a :: st) S P := by
  subst hp
  subst hr
  refine kl_write (S1 := ks_set S a (.inr (ci, fs.set kf v0))) rfl rfl (fun p e R s m args below meth c H locs cells slots ls Q CC hH hS0 hls k => ?_) k
  obtain ⟨h1, h2, r, h4, cell, q1, q2, q3, q4⟩ := ks_lt hH hS
  have hr : r = (C, T, N) := Option.some.inj (h4.symm.trans hc)
  subst hr
  have hts : ∀ w ∈ u_ws C T N, w.before args s = true := fun w hw => CC.2.2.2.2.2.1 w (hin w hw).1 (hin w hw).2
  have hK := CC.2.2.2.2.2.2.2.2.1.1
  have hap := va_apart (own := M.1) hts (fun _ h => h) ty0 hty hnm hK hc
  obtain ⟨hSl, hfc, kC, hkC, hkind⟩ := hK.1 ci _ hc
  obtain ⟨cf, kf', fi, f, hi, hsl⟩ := hSl kf hk
  have hlay := hts _ (u_in_lay hk)
  unfold u_lay at hlay
  rw [if_neg (by rw [hfin]; decide)] at hlay
  have hst := (u_facts hfc hkC (u_lays hts (fun _ h => h) hk) hi).1
  have h6 := u_store hfc hkC hkind hlay hi ((hty kf hk).trans (congrArg some hd0)) hn hfit
  show W p l e R s m args below meth c H locs cells slots Q (F0 m pc ls (ks_v G v0 :: .ref (ks_ad G a) :: st.map (ks_v G)))
  rw [h2]
  refine W.putK CC.1 CC.2.1 (f := f) ⟨CC.2.2.2.2.1, CC.2.2.2.2.2.1 _ hw rfl, ⟨_, _, _, hi⟩, hst⟩ (by rw [q2]; exact h6) q1 q3 (by rw [hsl]; exact k2_hasslot (q4 kf hk)) rfl rfl hd fun H' e1 e2 e3 => ?_
  rw [hsl] at e1 ⊢
  refine k H' _ (hH.set h1 e2 e3 ?_) (hS0.put e2 e3 (Nat.le_add_right _ _))
  refine ⟨_, hc, t_OB.to (V := updV (vp_V (fs.map (ks_v G))) kf (ks_v G v0)) ⟨_, e1, q2, q3, t_set q4 hap hk _⟩ (fun j _ => ?_)⟩
  rw [vp_updV_set (by rw [List.length_map]; exact hl), List.map_set]
theorem kl_putN {a ci N ix kf : Nat} {C ref host : String} {T : u_T} {ty0 : Nat → FieldType} {ty : FieldType} {fs : List Value} {v0 : Value} (hw : Cond.fieldLinkNest M.1 ix ref (T kf).2.1 (T kf).2.2.1 host ∈ lw_tbl) (hr : (T kf).1 = ref) (hin : ∀ w ∈ u_ws C T N, w ∈ lw_tbl ∧ goodWord w = true) (hty : ∀ k, k < N → parseFieldDescriptor (T k).2.2.1 = some (ty0 k)) (hnm : ∀ a, a < N → ∀ b, b < N → a ≠ b → (T a).2.1 ≠ (T b).2.1) (hc : vwCl[ci]? = some (C, T, N)) (hk : kf < N) (hS : S.2.2 a = some (.inr (ci, fs))) (hl : kf < fs.length) (hfin : (T kf).2.2.2 = false) (hd0 : ty0 kf = ty) (hn : narrow ty (ks_v G v0) = ks_v G v0) (hfit : fits ty (ks_v G v0) = true) (hd : decode M.2.1 pc = .ok (.putfield ix, 3)) (hp : pc + 3 = pc') (k : ks_L l G hh M d pc' lv st (ks_set S a (.inr (ci, fs.set kf v0))) P) : ks_L l G hh M d pc lv (v0 :: .ref a :: st) S P := by
  subst hp
  subst hr
  refine kl_write (S1 := ks_set S a (.inr (ci, fs.set kf v0))) rfl rfl (fun p e R s m args below meth c H locs cells slots ls Q CC hH hS0 hls k => ?_) k
  obtain ⟨h1, h2, r, h4, cell, q1, q2, q3, q4⟩ := ks_lt hH hS
  have hr : r = (C, T, N) := Option.some.inj (h4.symm.trans hc)
  subst hr
  have hts : ∀ w ∈ u_ws C T N, w.before args s = true := fun w hw => CC.2.2.2.2.2.1 w (hin w hw).1 (hin w hw).2
  have hK := CC.2.2.2.2.2.2.2.2.1.1
  have hap := va_apart (own := M.1) hts (fun _ h => h) ty0 hty hnm hK hc
  obtain ⟨hSl, hfc, kC, hkC, hkind⟩ := hK.1 ci _ hc
  obtain ⟨cf, kf', fi, f, hi, hsl⟩ := hSl kf hk
  have hlay := hts _ (u_in_lay hk)
  unfold u_lay at hlay
  rw [if_neg (by rw [hfin]; decide)] at hlay
  have hst := (u_facts hfc hkC (u_lays hts (fun _ h => h) hk) hi).1
  have h6 := u_store hfc hkC hkind hlay hi ((hty kf hk).trans (congrArg some hd0)) hn hfit
  show W p l e R s m args below meth c H locs cells slots Q (F0 m pc ls (ks_v G v0 :: .ref (ks_ad G a) :: st.map (ks_v G)))
  rw [h2]
  refine va_WputK CC.1 CC.2.1 (f := f) CC.2.2.2.2.1 (va_Nw.use rfl (CC.2.2.2.2.2.2.2.2.1.2.1 _ hw rfl)) hi hst (by rw [q2]; exact h6) q1 q3 (by rw [hsl]; exact k2_hasslot (q4 kf hk)) rfl rfl hd fun H' e1 e2 e3 => ?_
  rw [hsl] at e1 ⊢
  refine k H' _ (hH.set h1 e2 e3 ?_) (hS0.put e2 e3 (Nat.le_add_right _ _))
  refine ⟨_, hc, t_OB.to (V := updV (vp_V (fs.map (ks_v G))) kf (ks_v G v0)) ⟨_, e1, q2, q3, t_set q4 hap hk _⟩ (fun j _ => ?_)⟩
  rw [vp_updV_set (by rw [List.length_map]; exact hl), List.map_set]
theorem kl_putF {a ci N ix kf : Nat} {C ref : String} {T : u_T} {ty0 : Nat → FieldType} {ty : FieldType} {fs : List Value} {v0 : Value} (hw : Cond.fieldLink M.1 ix ref (T kf).2.1 (T kf).2.2.1 ∈ lw_tbl) (hr : (T kf).1 = ref) (ho : M.1 = ref) (hi2 : M.2.2.2.2 = "<init>") (hin : ∀ w ∈ u_ws C T N, w ∈ lw_tbl ∧ goodWord w = true) (hty : ∀ k, k < N → parseFieldDescriptor (T k).2.2.1 = some (ty0 k)) (hnm : ∀ a, a < N → ∀ b, b < N → a ≠ b → (T a).2.1 ≠ (T b).2.1) (hc : vwCl[ci]? = some (C, T, N)) (hk : kf < N) (hS : S.2.2 a = some (.inr (ci, fs))) (hl : kf < fs.length) (hfin : (T kf).2.2.2 = true) (hd0 : ty0 kf = ty) (hn : narrow ty (ks_v G v0) = ks_v G v0) (hfit : fits ty (ks_v G v0) = true) (hd : decode M.2.1 pc = .ok (.putfield ix, 3)) (hp : pc + 3 = pc') (k : ks_L l G hh M d pc' lv st (ks_set S a (.inr (ci, fs.set kf v0))) P) : ks_L l G hh M d pc lv (v0 :: .ref a :: st) S P := by
  subst hp
  subst hr
  refine kl_write (S1 := ks_set S a (.inr (ci, fs.set kf v0))) rfl rfl (fun p e R s m args below meth c H locs cells slots ls Q CC hH hS0 hls k => ?_) k
  obtain ⟨h1, h2, r, h4, cell, q1, q2, q3, q4⟩ := ks_lt hH hS
  have hr : r = (C, T, N) := Option.some.inj (h4.symm.trans hc)
  subst hr
  have hts : ∀ w ∈ u_ws C T N, w.before args s = true := fun w hw => CC.2.2.2.2.2.1 w (hin w hw).1 (hin w hw).2
  have hK := CC.2.2.2.2.2.2.2.2.1.1
  have hap := va_apart (own := M.1) hts (fun _ h => h) ty0 hty hnm hK hc
  obtain ⟨hSl, hfc, kC, hkC, hkind⟩ := hK.1 ci _ hc
  obtain ⟨cf, kf', fi, f, hi, hsl⟩ := hSl kf hk
  have hlay := hts _ (u_in_lay hk)
  unfold u_lay at hlay
  rw [if_pos hfin] at hlay
  have hst := (u_facts hfc hkC (u_lays hts (fun _ h => h) hk) hi).1
  have hcf : m.cls = cf := by
    obtain ⟨_, _, c', _, _, _, -, -, hf', -, -, -, hown2, -⟩ := Cond.laysFinal_spec hlay
    have e1 : c' = cf := by have := hi.symm.trans hf'; simp at this; exact this.1.symm
    rw [← ho] at hown2
    rw [← e1]
    exact Option.some.inj (CC.2.2.2.2.1.symm.trans hown2)
  have h6 := u_fits hfc hkC hkind (Or.inr hlay) hi ((hty kf hk).trans (congrArg some hd0)) hn hfit
  show W p l e R s m args below meth c H locs cells slots Q (F0 m pc ls (ks_v G v0 :: .ref (ks_ad G a) :: st.map (ks_v G)))
  rw [h2]
  refine W.putFinK CC.1 CC.2.1 CC.2.2.2.2.1 (CC.2.2.2.2.2.1 _ hw rfl) hi hst hcf (CC.2.2.2.2.2.2.2.1.trans hi2) (by rw [q2]; exact h6) q1 q3 (by rw [hsl]; exact k2_hasslot (q4 kf hk)) rfl rfl hd fun H' e1 e2 e3 => ?_
  rw [hsl] at e1 ⊢
  refine k H' _ (hH.set h1 e2 e3 ?_) (hS0.put e2 e3 (Nat.le_add_right _ _))
  refine ⟨_, hc, t_OB.to (V := updV (vp_V (fs.map (ks_v G))) kf (ks_v G v0)) ⟨_, e1, q2, q3, t_set q4 hap hk _⟩ (fun j _ => ?_)⟩
  rw [vp_updV_set (by rw [List.length_map]; exact hl), List.map_set]
theorem kl_iald {a n : Nat} {f : Nat → Int32} {i : Int32} (hS : S.2.2 a = some (.inl (1, n, .inl f))) (hi : vp_in i n) (hd : decode M.2.1 pc = .ok (.iaload, 1)) (hp : pc + 1 = pc') (k : ks_L l G hh M d pc' lv (.int (f i.toNatClampNeg) :: st) S P) : ks_L l G hh M d pc lv (.int i :: .ref a :: st) S P := by
  subst hp
  refine kl_read (fun p e R s m args below meth c H locs cells slots ls Q CC hH k => ?_) k
  show W p l e R s m args below meth c H locs cells slots Q (F0 m pc ls (.int i :: .ref (ks_ad G a) :: st.map (ks_v G)))
  rcases hH.2.2.1 a _ hS with ⟨h1, h2⟩ | ⟨j, q, ea, hq, he⟩
  · rw [ks_ad_lt (Nat.lt_of_lt_of_le h1 hH.2.1)]
    exact va_iald CC.1 CC.2.1 CC.2.2.2.2.2.2.2.2.1.1 (ks_single h2) 0 1 rfl rfl hi hd k
  · cases he
    have e1 : ks_ad G a = G.2.2.2 j := by
      subst ea
      unfold ks_ad
      rw [if_neg (by omega), Nat.add_sub_cancel_left]
    rw [e1]
    obtain ⟨cell, g1, g2, g3, g4, g5, g6, g7⟩ := (hH.2.2.2 j q hq).2
    have hlt : i.toNatClampNeg < q.2.2.length := Nat.not_le.mp fun z => hi (Or.inr z)
    exact W.iald CC.1 CC.2.1 g1 g2 g3 (fun z => z.elim (fun z => hi (Or.inl z)) (fun z => by omega)) (g6 _ hlt) rfl rfl hd k
theorem kl_bald {a n : Nat} {f : Nat → Int32} {i : Int32} (hS : S.2.2 a = some (.inl (0, n, .inl f))) (hi : vp_in i n) (hd : decode M.2.1 pc = .ok (.baload, 1)) (hp : pc + 1 = pc') (k : ks_L l G hh M d pc' lv (.int (f i.toNatClampNeg) :: st) S P) : ks_L l G hh M d pc lv (.int i :: .ref a :: st) S P := by
  subst hp
  refine kl_read (fun p e R s m args below meth c H locs cells slots ls Q CC hH k => ?_) k
  obtain ⟨h1, h2, h3⟩ := ks_ltT hH hS (by decide)
  show W p l e R s m args below meth c H locs cells slots Q (F0 m pc ls (.int i :: .ref (ks_ad G a) :: st.map (ks_v G)))
  rw [h2]
  exact va_bald CC.1 CC.2.1 CC.2.2.2.2.2.2.2.2.1.1 (ks_single h3) 0 0 rfl rfl hi hd k
theorem kl_zald {a n : Nat} {f : Nat → Int32} {i : Int32} (hS : S.2.2 a = some (.inl (3, n, .inl f))) (hi : vp_in i n) (hd : decode M.2.1 pc = .ok (.baload, 1)) (hp : pc + 1 = pc') (k : ks_L l G hh M d pc' lv (.int (f i.toNatClampNeg) :: st) S P) : ks_L l G hh M d pc lv (.int i :: .ref a :: st) S P := by
  subst hp
  refine kl_read (fun p e R s m args below meth c H locs cells slots ls Q CC hH k => ?_) k
  obtain ⟨h1, h2, h3⟩ := ks_ltT hH hS (by decide)
  show W p l e R s m args below meth c H locs cells slots Q (F0 m pc ls (.int i :: .ref (ks_ad G a) :: st.map (ks_v G)))
  rw [h2]
  exact va_zald CC.1 CC.2.1 CC.2.2.2.2.2.2.2.2.1.1 (ks_single h3) 0 3 rfl rfl hi hd k
theorem kl_lald {a n : Nat} {f : Nat → Int64} {i : Int32} (hS : S.2.2 a = some (.inl (2, n, .inr (.inl f)))) (hi : vp_in i n) (hd : decode M.2.1 pc = .ok (.laload, 1)) (hp : pc + 1 = pc') (k : ks_L l G hh M d pc' lv (.long (f i.toNatClampNeg) :: st) S P) : ks_L l G hh M d pc lv (.int i :: .ref a :: st) S P := by
  subst hp
  refine kl_read (fun p e R s m args below meth c H locs cells slots ls Q CC hH k => ?_) k
  obtain ⟨h1, h2, h3⟩ := ks_ltT hH hS (by decide)
  show W p l e R s m args below meth c H locs cells slots Q (F0 m pc ls (.int i :: .ref (ks_ad G a) :: st.map (ks_v G)))
  rw [h2]
  exact va_lald CC.1 CC.2.1 CC.2.2.2.2.2.2.2.2.1.1 (ks_single h3) 0 2 rfl rfl hi hd k
theorem kl_aald {a n t : Nat} {g : Nat → Option Nat} {i : Int32} (ht : t = 4 ∨ t = 5 ∨ t = 6 ∨ t = 7) (hS : S.2.2 a = some (.inl (t, n, .inr (.inr (.inr (.inr g)))))) (hi : vp_in i n) (hd : decode M.2.1 pc = .ok (.aaload, 1)) (hp : pc + 1 = pc') (k : ks_L l G hh M d pc' lv (va_rf (g i.toNatClampNeg) :: st) S P) : ks_L l G hh M d pc lv (.int i :: .ref a :: st) S P := by
  subst hp
  refine kl_read (fun p e R s m args below meth c H locs cells slots ls Q CC hH k => ?_) k
  obtain ⟨h1, h2, h3⟩ := ks_ltT hH hS (by omega)
  show W p l e R s m args below meth c H locs cells slots Q (F0 m pc ls (.int i :: .ref (ks_ad G a) :: st.map (ks_v G)))
  rw [h2]
  have k2 : W p l e R s m args below meth c H locs cells slots Q (F0 m (pc + 1) ls (ks_v G (va_rf (g i.toNatClampNeg)) :: st.map (ks_v G))) := k
  rw [ks_v_rf] at k2
  have hlt : i.toNatClampNeg < n := Nat.not_le.mp fun q => hi (Or.inr q)
  have hK := CC.2.2.2.2.2.2.2.2.1.1
  have key : ∀ ty : FieldType, (ks_tys G)[t]? = some (G.2.1 t, ty) → ty.isReference = true → W p l e R s m args below meth c H locs cells slots Q (F0 m pc ls (.int i :: .ref (G.2.2.1 + a) :: st.map (ks_v G))) := fun ty h8 h9 =>
    W.aald (v := va_rf ((g i.toNatClampNeg).map (ks_ad G))) (ty := ty) CC.1 CC.2.1 h3 ((hK.2 t _ h8).1 n (fun j => va_rf ((g j).map (ks_ad G)))) h9 (fun q => by cases q) (by show ¬ (i < 0 ∨ (arrV (G.2.1 t) n (fun j => va_rf ((g j).map (ks_ad G)))).slots.size ≤ _); rw [arrV_size]; exact hi) (by show (arrV (G.2.1 t) n (fun j => va_rf ((g j).map (ks_ad G)))).slots[_]? = _; rw [arrV_read _ _ hlt]) rfl rfl hd k2
  rcases ht with rfl | rfl | rfl | rfl <;> exact key _ rfl rfl
theorem kl_alen {a n t : Nat} {A : vp_A} (ht : t < 8) (hS : S.2.2 a = some (.inl (t, A))) (hn : A.1 = n) (hb : a < ks_B) (hd : decode M.2.1 pc = .ok (.arraylength, 1)) (hp : pc + 1 = pc') (k : ks_L l G hh M d pc' lv (.int (nI n) :: st) S P) : ks_L l G hh M d pc lv (.ref a :: st) S P := by
  subst hp
  subst hn
  refine kl_read (fun p e R s m args below meth c H locs cells slots ls Q CC hH k => ?_) k
  obtain ⟨h1, h2, h3⟩ := ks_ltA hH hS hb
  show W p l e R s m args below meth c H locs cells slots Q (F0 m pc ls (.ref (ks_ad G a) :: st.map (ks_v G)))
  rw [h2]
  have hK := CC.2.2.2.2.2.2.2.2.1.1
  have h8 : ∃ ty, (ks_tys G)[t]? = some (G.2.1 t, ty) := by
    have : t = 0 ∨ t = 1 ∨ t = 2 ∨ t = 3 ∨ t = 4 ∨ t = 5 ∨ t = 6 ∨ t = 7 := by omega
    rcases this with rfl | rfl | rfl | rfl | rfl | rfl | rfl | rfl <;> exact ⟨_, rfl⟩
  obtain ⟨ty, h8⟩ := h8
  have h9 : (ks_a G A).1 = A.1 := by
    obtain ⟨z, f | f | f | f | f⟩ := A <;> rfl
  rw [show nI A.1 = Int32.ofNat (ks_a G A).1 by rw [h9]; rfl] at k
  exact va_alen CC.1 CC.2.1 hK (ks_single h3) 0 t rfl h8 rfl hd k
end KsH2L

section KsH3L
variable {l : Launch} {G : ks_G} {hh : KH} {M : ks_M} {d pc pc' : Nat} {lv : List (Nat × Value)} {st st' : List Value} {S S1 : ks_S} {P : Option Value → ks_S → Prop}
theorem kl_iast {a n : Nat} {f : Nat → Int32} {i x : Int32} (hb : a < ks_B) (hS : S.2.2 a = some (.inl (1, n, .inl f))) (hi : vp_in i n) (hd : decode M.2.1 pc = .ok (.iastore, 1)) (hp : pc + 1 = pc') (k : ks_L l G hh M d pc' lv st (ks_set S a (.inl (1, n, .inl (upd f i.toNatClampNeg x)))) P) : ks_L l G hh M d pc lv (.int x :: .int i :: .ref a :: st) S P := by
  subst hp
  refine kl_write (S1 := ks_set S a (.inl (1, n, .inl (upd f i.toNatClampNeg x)))) rfl rfl (fun p e R s m args below meth c H locs cells slots ls Q CC hH hS0 hls k => ?_) k
  obtain ⟨h1, h2, h3⟩ := ks_ltA hH hS hb
  show W p l e R s m args below meth c H locs cells slots Q (F0 m pc ls (.int x :: .int i :: .ref (ks_ad G a) :: st.map (ks_v G)))
  rw [h2]
  have hK := CC.2.2.2.2.2.2.2.2.1.1
  refine W.iast (cell := arrV (G.2.1 1) n (fun j => .int (f j))) CC.1 CC.2.1 h3 ((hK.2 1 (G.2.1 1, .int) rfl).1 n _) (fun q => by cases q) (by rw [arrV_size]; exact hi) rfl rfl hd fun H' e1 e2 e3 => ?_
  refine k H' _ (hH.set h1 e2 e3 ?_) (hS0.put e2 e3 (Nat.le_add_right _ _))
  show H'[G.2.2.1 + a]? = some (arrV (G.2.1 1) n (fun j => .int (upd f i.toNatClampNeg x j)))
  rw [e1, arrV_store]
  congr 2
  funext q
  by_cases hq : q = i.toNatClampNeg <;> simp [updV, upd, hq]
theorem kl_bast {a n : Nat} {f : Nat → Int32} {i x : Int32} (hS : S.2.2 a = some (.inl (0, n, .inl f))) (hi : vp_in i n) (hd : decode M.2.1 pc = .ok (.bastore, 1)) (hp : pc + 1 = pc') (k : ks_L l G hh M d pc' lv st (ks_set S a (.inl (0, n, .inl (upd f i.toNatClampNeg x.toInt8.toInt32)))) P) : ks_L l G hh M d pc lv (.int x :: .int i :: .ref a :: st) S P := by
  subst hp
  refine kl_write (S1 := ks_set S a (.inl (0, n, .inl (upd f i.toNatClampNeg x.toInt8.toInt32)))) rfl rfl (fun p e R s m args below meth c H locs cells slots ls Q CC hH hS0 hls k => ?_) k
  obtain ⟨h1, h2, h3⟩ := ks_ltT hH hS (by decide)
  show W p l e R s m args below meth c H locs cells slots Q (F0 m pc ls (.int x :: .int i :: .ref (ks_ad G a) :: st.map (ks_v G)))
  rw [h2]
  have hK := CC.2.2.2.2.2.2.2.2.1.1
  refine W.bast (cell := arrV (G.2.1 0) n (fun j => .int (f j))) CC.1 CC.2.1 h3 ((hK.2 0 (G.2.1 0, .byte) rfl).1 n _) (fun q => by cases q) (by rw [arrV_size]; exact hi) rfl rfl hd fun H' e1 e2 e3 => ?_
  refine k H' _ (hH.set h1 e2 e3 ?_) (hS0.put e2 e3 (Nat.le_add_right _ _))
  show H'[G.2.2.1 + a]? = some (arrV (G.2.1 0) n (fun j => .int (upd f i.toNatClampNeg x.toInt8.toInt32 j)))
  rw [e1, arrV_store]
  congr 2
  funext q
  by_cases hq : q = i.toNatClampNeg <;> simp [updV, upd, hq, narrow]
theorem kl_zast {a n : Nat} {f : Nat → Int32} {i x : Int32} (hS : S.2.2 a = some (.inl (3, n, .inl f))) (hi : vp_in i n) (hx : narrow .boolean (.int x) = .int x) (hd : decode M.2.1 pc = .ok (.bastore, 1)) (hp : pc + 1 = pc') (k : ks_L l G hh M d pc' lv st (ks_set S a (.inl (3, n, .inl (upd f i.toNatClampNeg x)))) P) : ks_L l G hh M d pc lv (.int x :: .int i :: .ref a :: st) S P := by
  subst hp
  refine kl_write (S1 := ks_set S a (.inl (3, n, .inl (upd f i.toNatClampNeg x)))) rfl rfl (fun p e R s m args below meth c H locs cells slots ls Q CC hH hS0 hls k => ?_) k
  obtain ⟨h1, h2, h3⟩ := ks_ltT hH hS (by decide)
  show W p l e R s m args below meth c H locs cells slots Q (F0 m pc ls (.int x :: .int i :: .ref (ks_ad G a) :: st.map (ks_v G)))
  rw [h2]
  have hK := CC.2.2.2.2.2.2.2.2.1.1
  refine W.zast (cell := arrV (G.2.1 3) n (fun j => .int (f j))) CC.1 CC.2.1 h3 ((hK.2 3 (G.2.1 3, .boolean) rfl).1 n _) (fun q => by cases q) (by rw [arrV_size]; exact hi) rfl rfl hd fun H' e1 e2 e3 => ?_
  refine k H' _ (hH.set h1 e2 e3 ?_) (hS0.put e2 e3 (Nat.le_add_right _ _))
  show H'[G.2.2.1 + a]? = some (arrV (G.2.1 3) n (fun j => .int (upd f i.toNatClampNeg x j)))
  rw [e1, arrV_store, hx]
  congr 2
  funext q
  by_cases hq : q = i.toNatClampNeg <;> simp [updV, upd, hq]
theorem kl_last {a n : Nat} {f : Nat → Int64} {i : Int32} {x : Int64} (hS : S.2.2 a = some (.inl (2, n, .inr (.inl f)))) (hi : vp_in i n) (hd : decode M.2.1 pc = .ok (.lastore, 1)) (hp : pc + 1 = pc') (k : ks_L l G hh M d pc' lv st (ks_set S a (.inl (2, n, .inr (.inl (vp_updL f i.toNatClampNeg x))))) P) : ks_L l G hh M d pc lv (.long x :: .int i :: .ref a :: st) S P := by
  subst hp
  refine kl_write (S1 := ks_set S a (.inl (2, n, .inr (.inl (vp_updL f i.toNatClampNeg x))))) rfl rfl (fun p e R s m args below meth c H locs cells slots ls Q CC hH hS0 hls k => ?_) k
  obtain ⟨h1, h2, h3⟩ := ks_ltT hH hS (by decide)
  show W p l e R s m args below meth c H locs cells slots Q (F0 m pc ls (.long x :: .int i :: .ref (ks_ad G a) :: st.map (ks_v G)))
  rw [h2]
  have hK := CC.2.2.2.2.2.2.2.2.1.1
  refine W.last (cell := arrV (G.2.1 2) n (fun j => .long (f j))) CC.1 CC.2.1 h3 ((hK.2 2 (G.2.1 2, .long) rfl).1 n _) (fun q => by cases q) (by rw [arrV_size]; exact hi) rfl rfl hd fun H' e1 e2 e3 => ?_
  refine k H' _ (hH.set h1 e2 e3 ?_) (hS0.put e2 e3 (Nat.le_add_right _ _))
  show H'[G.2.2.1 + a]? = some (arrV (G.2.1 2) n (fun j => .long (vp_updL f i.toNatClampNeg x j)))
  rw [e1, arrV_store]
  congr 2
  funext q
  by_cases hq : q = i.toNatClampNeg <;> simp [updV, vp_updL, hq]
theorem kl_aast {a n t b ci : Nat} {r : vw_C} {g : Nat → Option Nat} {fs : List Value} {i : Int32} (ht : (ks_tys G)[t]? = some (G.2.1 t, .object r.1)) (ht1 : t ≠ 1) (hc : vwCl[ci]? = some r) (hS : S.2.2 a = some (.inl (t, n, .inr (.inr (.inr (.inr g)))))) (hSb : S.2.2 b = some (.inr (ci, fs))) (hi : vp_in i n) (hd : decode M.2.1 pc = .ok (.aastore, 1)) (hp : pc + 1 = pc') (k : ks_L l G hh M d pc' lv st (ks_set S a (.inl (t, n, .inr (.inr (.inr (.inr (va_up g i.toNatClampNeg (some b)))))))) P) : ks_L l G hh M d pc lv (.ref b :: .int i :: .ref a :: st) S P := by
  subst hp
  refine kl_write (S1 := ks_set S a (.inl (t, n, .inr (.inr (.inr (.inr (va_up g i.toNatClampNeg (some b)))))))) rfl rfl (fun p e R s m args below meth c H locs cells slots ls Q CC hH hS0 hls k => ?_) k
  obtain ⟨h1, h2, h3⟩ := ks_ltT hH hS ht1
  obtain ⟨b1, b2, r', h4, cellV, g1, g2, g3, -⟩ := ks_lt hH hSb
  show W p l e R s m args below meth c H locs cells slots Q (F0 m pc ls (.ref (ks_ad G b) :: .int i :: .ref (ks_ad G a) :: st.map (ks_v G)))
  rw [h2]
  have hK := CC.2.2.2.2.2.2.2.2.1.1
  have hlt : i.toNatClampNeg < n := Nat.not_le.mp fun q => hi (Or.inr q)
  have h0 : ¬ i < 0 := fun q => hi (Or.inl q)
  have hcls := (hK.1 ci r hc).2
  obtain ⟨kA, comp, k1, k2, k3, -⟩ := (hK.2 t _ ht).2
  have hcomp : comp = G.1.1 ci := Option.some.inj (k3.symm.trans hcls.1)
  subst hcomp
  obtain ⟨kC, hkC, -⟩ := hcls.2
  refine W.aast (cell := arrV (G.2.1 t) n (fun j => va_rf ((g j).map (ks_ad G)))) CC.1 CC.2.1 h3 (fun q h => by cases h) (fun h => by cases h) k1 k2 rfl hkC ⟨h0, by rw [arrV_size]; exact hlt⟩ (by rw [b2]; exact g1) (fun q h => by rw [g3] at h; cases h) (by rw [g2]; exact hkC) (by rw [g2]; exact va_assign hcls) rfl rfl hd fun H' e1 e2 e3 => ?_
  refine k H' _ (hH.set h1 e2 e3 ?_) (hS0.put e2 e3 (Nat.le_add_right _ _))
  show H'[G.2.2.1 + a]? = some (arrV (G.2.1 t) n (fun j => va_rf ((va_up g i.toNatClampNeg (some b) j).map (ks_ad G))))
  rw [e1, arrV_store]
  congr 2
  funext q
  by_cases hq : q = i.toNatClampNeg <;> simp [updV, va_up, hq, va_rf]
theorem kl_newc {ci N ix : Nat} {C : String} {T : u_T} {ty0 : Nat → FieldType} {fs : List Value} (hcl : Cond.classLink M.1 ix C ∈ lw_tbl) (hinst : Cond.instantiable C N ∈ lw_tbl) (hini : Cond.initialized C ∈ lw_tbl) (hin : ∀ w ∈ u_ws C T N, w ∈ lw_tbl ∧ goodWord w = true) (hty : ∀ k, k < N → parseFieldDescriptor (T k).2.2.1 = some (ty0 k)) (hc : vwCl[ci]? = some (C, T, N)) (hfs : ∀ j, j < N → defaultValue (ty0 j) = vp_V fs j) (hmap : fs.map (ks_v G) = fs) (hB : S.1 < ks_B) (hd : decode M.2.1 pc = .ok (.new ix, 3)) (hp : pc + 3 = pc') (k : ks_L l G hh M d pc' lv (.ref S.1 :: st) (ks_add S N (.inr (ci, fs))) P) : ks_L l G hh M d pc lv st S P := by
  subst hp
  refine kl_make (S1 := ks_add S N (.inr (ci, fs))) (kc := 1) (n := N) rfl rfl (fun p e R s m args below meth c H locs cells slots ls Q CC hH hS0 hls hcc hss k => ?_) k
  have hK := CC.2.2.2.2.2.2.2.2.1.1
  have hKn := hK.1 ci _ hc
  have hts : ∀ w ∈ u_ws C T N, w.before args s = true := fun w hw => CC.2.2.2.2.2.1 w (hin w hw).1 (hin w hw).2
  refine W.newcK CC.1 CC.2.1 CC.2.2.2.2.1 (CC.2.2.2.2.2.1 _ hcl rfl) (CC.2.2.2.2.2.1 _ hinst rfl) (CC.2.2.2.2.2.1 _ hini rfl) rfl hd hcc hss hKn.2.1 hH.1 fun H1 kC hkC e1 z1 o1 => ?_
  have h9 := k H1 (hH.add hB (by rw [z1, hH.1]) (fun q hq => o1 q (by rw [← hH.1]; exact hq)) (by
    show va_at G.1 vwCl (G.2.2.1 + S.1, .inr (ci, fs.map (ks_v G))) H1
    rw [hmap]
    exact ⟨_, hc, (u_born ty0 hts (fun _ h => h) hKn hkC e1 hty).to hfs⟩)) ⟨Nat.le_trans hS0.1 (by rw [z1, hH.1]; omega), fun q g1 g2 => (o1 q (by rw [← hH.1]; exact Nat.lt_of_lt_of_le g1 hS0.1)).trans (hS0.2.1 q g1 g2), hS0.2.2⟩
  have e5 : (List.map (ks_v G) (.ref S.1 :: st)) = (.ref (G.2.2.1 + S.1) :: st.map (ks_v G)) := by
    show (Value.ref (ks_ad G S.1) :: _) = _
    rw [ks_ad_lt hB]
  rw [e5] at h9
  exact h9
theorem kl_newa {t N : Nat} {at9 : ArrayType} {ty : FieldType} {n : Int32} {A0 : vp_A} (hty : newarray.typeOf at9 = ty) (ht : (ks_tys G)[t]? = some (G.2.1 t, ty)) (hra : ∀ U : State, va_RA U (G.2.1 t) ty → U.vm.findClass ("[" ++ ty.toString) = some (G.2.1 t)) (hw : Cond.arrayClass ty ∈ lw_tbl) (hA : ∀ cA : ClassId, vp_cell cA (ks_a G A0) = arrV cA N (fun _ => defaultValue ty)) (hn : ¬ n < 0) (hN : n.toNatClampNeg = N) (hbytes : N * componentBytes ty ≤ 536870912) (hB : S.1 < ks_B) (hd : decode M.2.1 pc = .ok (.newarray at9, 2)) (hp : pc + 2 = pc') (k : ks_L l G hh M d pc' lv (.ref S.1 :: st) (ks_add S N (.inl (t, A0))) P) : ks_L l G hh M d pc lv (.int n :: st) S P := by
  subst hp
  subst hty
  refine kl_make (S1 := ks_add S N (.inl (t, A0))) (kc := 1) (n := N) rfl rfl (fun p e R s m args below meth c H locs cells slots ls Q CC hH hS0 hls hcc hss k => ?_) k
  have hK := CC.2.2.2.2.2.2.2.2.1.1
  refine va_newaK CC.1 CC.2.1 (CC.2.2.2.2.2.1 _ hw rfl) rfl hd rfl hn hN hbytes hcc hss hH.1 fun H1 cA e1 z1 o1 hAr hNm => ?_
  have hcA : cA = G.2.1 t := Option.some.inj (hNm.symm.trans (hra s (hK.2 t _ ht).2))
  subst hcA
  have h9 := k H1 (hH.add hB (by rw [z1, hH.1]) (fun q hq => o1 q (by rw [← hH.1]; exact hq)) (by
    show H1[G.2.2.1 + S.1]? = some (vp_cell (G.2.1 t) (ks_a G A0))
    rw [hA]
    exact e1)) ⟨Nat.le_trans hS0.1 (by rw [z1, hH.1]; omega), fun q g1 g2 => (o1 q (by rw [← hH.1]; exact Nat.lt_of_lt_of_le g1 hS0.1)).trans (hS0.2.1 q g1 g2), hS0.2.2⟩
  have e5 : (List.map (ks_v G) (.ref S.1 :: st)) = (.ref (G.2.2.1 + S.1) :: st.map (ks_v G)) := by
    show (Value.ref (ks_ad G S.1) :: _) = _
    rw [ks_ad_lt hB]
  rw [e5] at h9
  exact h9
theorem kl_objInit {a ix : Nat} (hw : Cond.methodLink M.1 ix Lib.objectInit ∈ lw_tbl) (hi : Cond.instanceMethod Lib.objectInit ∈ lw_tbl) (hcd : Cond.code Lib.objectInit ⟨#[0xb1]⟩ 1 none ∈ lw_tbl) (hd1 : 1 ≤ d) (hsm : (st.map fun v => v.category).sum ≤ 100) (hd : decode M.2.1 pc = .ok (.invokespecial ix, 3)) (hp : pc + 3 = pc') (k : ks_L l G hh M d pc' lv st S P) : ks_L l G hh M d pc lv (.ref a :: st) S P := by
  subst hp
  refine kl_pure (fun p e R s m args below meth c H locs cells slots ls Q CC hl k => ?_) k
  have hcat : ((st.map (ks_v G)).map fun v => v.category) = st.map fun v => v.category := by
    rw [List.map_map]
    apply List.map_congr_left
    intro q _
    exact ks_v_cat G q
  exact W.objInit (a := ks_ad G a) CC.1 CC.2.1 CC.2.2.2.2.1 (CC.2.2.2.2.2.1 _ hw rfl) (CC.2.2.2.2.2.1 _ hi rfl) (CC.2.2.2.2.2.1 _ hcd rfl) rfl (hl.1.trans CC.2.2.2.1.symm) rfl hd (Nat.le_trans hd1 CC.2.2.2.2.2.2.2.2.2.1) (by rw [hcat]; have := CC.2.2.2.2.2.2.2.2.2.2; show 2 * 0 + _ + 12 ≤ _; omega) k
theorem kl_gets {ix i : Nat} {q : String × String × List Int32} {ref : String} (hq : ks_stat[i]? = some q) (hr : q.1 = ref) (hw : Cond.fieldLink M.1 ix ref q.2.1 "[I" ∈ lw_tbl) (hd : decode M.2.1 pc = .ok (.getstatic ix, 3)) (hp : pc + 3 = pc') (k : ks_L l G hh M d pc' lv (.ref (ks_B + i) :: st) S P) : ks_L l G hh M d pc lv st S P := by
  subst hp
  subst hr
  refine kl_read (fun p e R s m args below meth c H locs cells slots ls Q CC hH k => ?_) k
  obtain ⟨cf, kf, fi, f, a, cell, g1, g2, g3, g4, g5, g6, g7, g8⟩ := (hH.2.2.2 i q hq).1
  have e5 : (List.map (ks_v G) (.ref (ks_B + i) :: st)) = (.ref (G.2.2.2 i) :: st.map (ks_v G)) := by
    show (Value.ref (ks_ad G (ks_B + i)) :: _) = _
    unfold ks_ad
    rw [if_neg (by omega), Nat.add_sub_cancel_left]
  rw [e5] at k
  exact W.gets CC.1 CC.2.1 CC.2.2.2.2.1 (CC.2.2.2.2.2.1 _ hw rfl) g1 g2 g3 g4 g5 (fun h => by rw [h] at g6; cases g6) g7 rfl hd k
end KsH3L

section KsCL
variable {l : Launch} {G : ks_G} {hh : KH} {M M' : ks_M} {y : MethodName} {d pc pc' : Nat} {lv : List (Nat × Value)} {st rest As : List Value} {S S1 : ks_S} {P P1 : Option Value → ks_S → Prop} {v1 : Option Value} {aa : Array Value}
theorem kl_after (hm1 : S.1 ≤ S1.1 ∧ S.2.1 ≤ S1.2.1) (hrun : ∀ (p : Program) (e : Env) (R : Room) (s : State) (m : MethodId) (args : Array Value) (below : List Frame) (meth : Method) (c : Code) (H : Heap) (locs : List Loc) (cells slots : Nat) (ls : Array Slot),
      ks_C G M (d + 1) p R s m args meth c → ks_H G S s H → ls.size = M.2.2.1 → cells + (S1.1 - S.1) ≤ R.cells → slots + (S1.2.1 - S.2.1) ≤ R.slots → va_Run p l e R s m args below meth c H locs cells slots (S1.1 - S.1) (S1.2.1 - S.2.1) (F0 m pc ls (st.map (ks_v G))) (rest.map (ks_v G)) (ks_Q G v1 S1 aa) (ks_A G))
    (hp : pc + 3 = pc') (k : ks_L l G hh M (d + 1) pc' lv (v1.toList ++ rest) S1 P) : ks_L l G hh M (d + 1) pc lv st S P := by
  subst hp
  obtain ⟨v, S', ⟨hm, hV⟩, hP⟩ := k
  refine ⟨v, S', ⟨⟨Nat.le_trans hm1.1 hm.1, Nat.le_trans hm1.2 hm.2⟩, fun p e R s m args below meth c H locs cells slots ls CC hH hS hl h1 h2 => ?_⟩, hP⟩
  intro T hT X
  obtain ⟨v', st₀, t, T', L, h0, X', hL, e1, e2, ⟨hv, hH1, hK1, hz, hk⟩, stp⟩ := hrun p e R s m args below meth c H locs cells slots ls CC hH hl.1 (by omega) (by omega) T hT X
  cases hv
  rw [h0] at hz hk
  have hal : s.vm.Alike t.vm := by rw [← e2]; exact X'.warmed.alike
  have hH2 : ks_H G S1 s T'.heap := by rw [e1]; exact hH1.moved hal.symm
  have hS2 : va_S (ks_A G) s.heap T'.heap (locs ++ L) := ⟨Nat.le_trans hS.1 (by rw [e1]; exact hz), fun q g1 g2 => by
      rw [e1, hk q (Nat.lt_of_lt_of_le g1 hS.1) g2]
      exact hS.2.1 q g1 g2, fun q hq => by
      rcases List.mem_append.mp hq with h | h
      · exact hS.2.2 q h
      · exact hL q h⟩
  have hw := hV p e R s m args below meth c T'.heap (locs ++ L) (cells + (S1.1 - S.1)) (slots + (S1.2.1 - S.2.1)) ls CC hH2 hS2 hl (by omega) (by omega)
  have e5 : (v1.toList ++ rest).map (ks_v G) = (v1.map (ks_v G)).toList ++ rest.map (ks_v G) := by cases v1 <;> rfl
  rw [e5] at hw
  obtain ⟨t2, a1, b1⟩ := hw T' rfl X'
  exact ⟨t2, stp t2 a1, b1⟩
theorem kl_callV {b ix n ci : Nat} {r : vw_C} {fs : List Value} (hM : ks_P l G y M' d (.ref b :: As) S P1) (hS : S.2.2 b = some (.inr (ci, fs))) (hc : vwCl[ci]? = some r) (hr : y.cls = r.1)
    (hlk : Cond.methodLink M.1 ix y ∈ lw_tbl) (hin : Cond.instanceMethod y ∈ lw_tbl) (hse : Cond.selects r.1 y y ∈ lw_tbl) (hini : Cond.initialized r.1 ∈ lw_tbl) (hcd : Cond.code y M'.2.1 M'.2.2.1 M'.2.2.2.1 ∈ lw_tbl)
    (hd0 : y.cls ≠ "java/lang/invoke/MethodHandle" ∧ y.cls ≠ "java/lang/invoke/VarHandle" ∧ (parseMethodDescriptor y.desc).map (fun d => d.parameters.length) = some n) (hn : As.length = n) (hL : M'.2.2.1 ≤ 180) (hsm : (rest.map fun v => v.category).sum ≤ 8)
    (hst : st = As.reverse ++ .ref b :: rest) (hd : decode M.2.1 pc = .ok (.invokevirtual ix, 3)) (hp : pc + 3 = pc') (k : ∀ v1 S1, P1 v1 S1 → ks_L l G hh M (d + 1) pc' lv (v1.toList ++ rest) S1 P) : ks_L l G hh M (d + 1) pc lv st S P := by
  obtain ⟨v1, S1, ⟨hm1, hM⟩, hP1⟩ := hM
  refine kl_after (v1 := v1) (S1 := S1) (aa := (Value.ref (ks_ad G b) :: As.map (ks_v G)).toArray) hm1 (fun p e R s m args below meth c H locs cells slots ls CC hH hls hcc hss => ?_) hp (k v1 S1 hP1)
  obtain ⟨b1, b2, r', h4, cellV, g1, g2, g3, -⟩ := ks_lt hH hS
  have hts : ∀ w ∈ lw_tbl.filter goodWord, w.before args s = true := fun w hw => CC.2.2.2.2.2.1 w (List.mem_filter.mp hw).1 (List.mem_filter.mp hw).2
  have hK := CC.2.2.2.2.2.2.2.2.1
  have hfc := ((hK.1.1 ci r hc).2).1
  have hTs : GoodIn (lw_tbl.filter goodWord) (wsV M.1 ix r.1 y (ks_ws y M')) := fun w hw => by
    rcases List.mem_append.mp hw with h | h
    · simp only [List.mem_cons, List.not_mem_nil, or_false] at h
      rcases h with rfl | rfl | rfl | rfl
      · exact ⟨List.mem_filter.mpr ⟨hlk, rfl⟩, good_of_word rfl⟩
      · exact ⟨List.mem_filter.mpr ⟨hin, rfl⟩, good_of_word rfl⟩
      · exact ⟨List.mem_filter.mpr ⟨hse, rfl⟩, good_of_word rfl⟩
      · exact ⟨List.mem_filter.mpr ⟨hini, rfl⟩, good_of_word rfl⟩
    · exact ks_goodIn hcd w h
  exact va_runV (C := r.1) (b := ks_ad G b) (As := As.map (ks_v G)) ⟨CC.1, CC.2.1, CC.2.2.2.1, CC.2.2.2.2.1, hts⟩ hM (cwV n hts hTs rfl rfl rfl ⟨hr, hd0⟩ ⟨CC.2.2.2.2.2.2.2.2.2.1, by have := CC.2.2.2.2.2.2.2.2.2.2; show 8 + (M'.2.2.1 + 11) + 200 * d ≤ _; omega⟩)
    ⟨ks_blind _, ⟨cellV, by rw [b2]; exact g1, by rw [g3]; rfl, by rw [g2]; exact hfc⟩, fun U hU hW => ⟨rfl, by rw [hU]; exact hH.moved hW.alike, hK.warm hW⟩⟩ rfl (by rw [List.length_map]; exact hn) hls (by rw [hst]; simp [ks_v]) (lv_room (by rw [ks_cat]; exact hsm)) hd ⟨hcc, hss⟩
theorem kl_callS {ix n : Nat} (hM : ks_P l G y M' d As S P1) (hlk : Cond.methodLink M.1 ix y ∈ lw_tbl) (hstc : Cond.static y ∈ lw_tbl) (hini : Cond.initialized y.cls ∈ lw_tbl) (hcd : Cond.code y M'.2.1 M'.2.2.1 M'.2.2.2.1 ∈ lw_tbl)
    (hd0 : y.cls ≠ "java/lang/invoke/MethodHandle" ∧ y.cls ≠ "java/lang/invoke/VarHandle" ∧ (parseMethodDescriptor y.desc).map (fun d => d.parameters.length) = some n) (hn : As.length = n) (hL : M'.2.2.1 ≤ 180) (hsm : (rest.map fun v => v.category).sum ≤ 8)
    (hst : st = As.reverse ++ rest) (hd : decode M.2.1 pc = .ok (.invokestatic ix, 3)) (hp : pc + 3 = pc') (k : ∀ v1 S1, P1 v1 S1 → ks_L l G hh M (d + 1) pc' lv (v1.toList ++ rest) S1 P) : ks_L l G hh M (d + 1) pc lv st S P := by
  obtain ⟨v1, S1, ⟨hm1, hM⟩, hP1⟩ := hM
  refine kl_after (v1 := v1) (S1 := S1) (aa := (As.map (ks_v G)).toArray) hm1 (fun p e R s m args below meth c H locs cells slots ls CC hH hls hcc hss => ?_) hp (k v1 S1 hP1)
  have hts : ∀ w ∈ lw_tbl.filter goodWord, w.before args s = true := fun w hw => CC.2.2.2.2.2.1 w (List.mem_filter.mp hw).1 (List.mem_filter.mp hw).2
  have hK := CC.2.2.2.2.2.2.2.2.1
  exact va_runS (As := As.map (ks_v G)) ⟨CC.1, CC.2.1, CC.2.2.2.1, CC.2.2.2.2.1, hts⟩ hM ⟨callB_of n hts (ks_goodIn hcd) rfl rfl rfl (CC.2.2.2.2.2.1 _ hini rfl) (CC.2.2.2.2.2.1 _ hlk rfl) hd0 ⟨CC.2.2.2.2.2.2.2.2.2.1, by have := CC.2.2.2.2.2.2.2.2.2.2; show 8 + (M'.2.2.1 + 11) + 200 * d ≤ _; omega⟩, CC.2.2.2.2.2.1 _ hstc rfl⟩
    ⟨ks_blind _, fun U hU hW => ⟨rfl, by rw [hU]; exact hH.moved hW.alike, hK.warm hW⟩⟩ rfl (by rw [List.length_map]; exact hn) hls (by rw [hst]; simp) (lv_room (by rw [ks_cat]; exact hsm)) hd ⟨hcc, hss⟩
theorem kl_callI {b ix n : Nat} (hM : ks_P l G y M' d (.ref b :: As) S P1) (hr : M'.2.2.2.1 = none) (hy : y.name = "<init>") (hlk : Cond.methodLink M.1 ix y ∈ lw_tbl) (hin : Cond.instanceMethod y ∈ lw_tbl) (hini : Cond.initialized y.cls ∈ lw_tbl) (hcd : Cond.code y M'.2.1 M'.2.2.1 M'.2.2.2.1 ∈ lw_tbl)
    (hd0 : y.cls ≠ "java/lang/invoke/MethodHandle" ∧ y.cls ≠ "java/lang/invoke/VarHandle" ∧ (parseMethodDescriptor y.desc).map (fun d => d.parameters.length) = some n) (hn : As.length = n) (hL : M'.2.2.1 ≤ 180) (hsm : (rest.map fun v => v.category).sum ≤ 8)
    (hst : st = As.reverse ++ .ref b :: rest) (hd : decode M.2.1 pc = .ok (.invokespecial ix, 3)) (hp : pc + 3 = pc') (k : ∀ v1 S1, P1 v1 S1 → ks_L l G hh M (d + 1) pc' lv (v1.toList ++ rest) S1 P) : ks_L l G hh M (d + 1) pc lv st S P := by
  obtain ⟨v1, S1, ⟨hm1, hM⟩, hP1⟩ := hM
  refine kl_after (v1 := v1) (S1 := S1) (aa := (Value.ref (ks_ad G b) :: As.map (ks_v G)).toArray) hm1 (fun p e R s m args below meth c H locs cells slots ls CC hH hls hcc hss => ?_) hp (k v1 S1 hP1)
  have hts : ∀ w ∈ lw_tbl.filter goodWord, w.before args s = true := fun w hw => CC.2.2.2.2.2.1 w (List.mem_filter.mp hw).1 (List.mem_filter.mp hw).2
  have hK := CC.2.2.2.2.2.2.2.2.1
  exact va_runI (b := ks_ad G b) (As := As.map (ks_v G)) ⟨CC.1, CC.2.1, CC.2.2.2.1, CC.2.2.2.2.1, hts⟩ hM (cwI n hts (ks_goodIn hcd) (by unfold ks_ws; rw [hr]) rfl rfl (CC.2.2.2.2.2.1 _ hini rfl) (CC.2.2.2.2.2.1 _ hlk rfl) (CC.2.2.2.2.2.1 _ hin rfl) hy hd0 ⟨CC.2.2.2.2.2.2.2.2.2.1, by have := CC.2.2.2.2.2.2.2.2.2.2; show 8 + (M'.2.2.1 + 11) + 200 * d ≤ _; omega⟩)
    ⟨ks_blind _, fun U hU hW => ⟨rfl, by rw [hU]; exact hH.moved hW.alike, hK.warm hW⟩⟩ rfl (by rw [List.length_map]; exact hn) hls (by rw [hst]; simp [ks_v]) (lv_room (by rw [ks_cat]; exact hsm)) hd ⟨hcc, hss⟩
theorem kl_callIN {b ix n : Nat} {host : String} (hM : ks_P l G y M' d (.ref b :: As) S P1) (hr : M'.2.2.2.1 = none) (hy : y.name = "<init>") (hlk : Cond.methodLinkNest M.1 ix y host ∈ lw_tbl) (hin : Cond.instanceMethod y ∈ lw_tbl) (hini : Cond.initialized y.cls ∈ lw_tbl) (hcd : Cond.code y M'.2.1 M'.2.2.1 M'.2.2.2.1 ∈ lw_tbl)
    (hd0 : y.cls ≠ "java/lang/invoke/MethodHandle" ∧ y.cls ≠ "java/lang/invoke/VarHandle" ∧ (parseMethodDescriptor y.desc).map (fun d => d.parameters.length) = some n) (hn : As.length = n) (hL : M'.2.2.1 ≤ 180) (hsm : (rest.map fun v => v.category).sum ≤ 8)
    (hst : st = As.reverse ++ .ref b :: rest) (hd : decode M.2.1 pc = .ok (.invokespecial ix, 3)) (hp : pc + 3 = pc') (k : ∀ v1 S1, P1 v1 S1 → ks_L l G hh M (d + 1) pc' lv (v1.toList ++ rest) S1 P) : ks_L l G hh M (d + 1) pc lv st S P := by
  obtain ⟨v1, S1, ⟨hm1, hM⟩, hP1⟩ := hM
  refine kl_after (v1 := v1) (S1 := S1) (aa := (Value.ref (ks_ad G b) :: As.map (ks_v G)).toArray) hm1 (fun p e R s m args below meth c H locs cells slots ls CC hH hls hcc hss => ?_) hp (k v1 S1 hP1)
  have hts : ∀ w ∈ lw_tbl.filter goodWord, w.before args s = true := fun w hw => CC.2.2.2.2.2.1 w (List.mem_filter.mp hw).1 (List.mem_filter.mp hw).2
  have hK := CC.2.2.2.2.2.2.2.2.1
  exact va_runIN (b := ks_ad G b) (As := As.map (ks_v G)) ⟨CC.1, CC.2.1, CC.2.2.2.1, CC.2.2.2.2.1, hts⟩ hM ⟨va_cnB n hts (ks_goodIn hcd) (by unfold ks_ws; rw [hr]) rfl rfl (hK.2.1 _ hlk rfl) (CC.2.2.2.2.2.1 _ hini rfl) hd0 ⟨CC.2.2.2.2.2.2.2.2.2.1, by have := CC.2.2.2.2.2.2.2.2.2.2; show 8 + (M'.2.2.1 + 11) + 200 * d ≤ _; omega⟩, hy, CC.2.2.2.2.2.1 _ hin rfl⟩
    ⟨ks_blind _, fun U hU hW => ⟨rfl, by rw [hU]; exact hH.moved hW.alike, hK.warm hW⟩⟩ rfl (by rw [List.length_map]; exact hn) hls (by rw [hst]; simp [ks_v]) (lv_room (by rw [ks_cat]; exact hsm)) hd ⟨hcc, hss⟩
end KsCL

section KsTL
variable {l : Launch} {G : ks_G} {hh : KH} {M : ks_M} {d pc : Nat} {lv : List (Nat × Value)} {st : List Value} {S : ks_S} {P : Option Value → ks_S → Prop}
theorem kl_ti {x y : Int32} (h : x = y) (k : ks_L l G hh M d pc lv (.int y :: st) S P) : ks_L l G hh M d pc lv (.int x :: st) S P := h ▸ k
theorem kl_tl {x y : Int64} (h : x = y) (k : ks_L l G hh M d pc lv (.long y :: st) S P) : ks_L l G hh M d pc lv (.long x :: st) S P := h ▸ k
theorem kl_tS {S' : ks_S} (h : S = S') (k : ks_L l G hh M d pc lv st S' P) : ks_L l G hh M d pc lv st S P := h ▸ k
end KsTL
section KsCpL
variable {l : Launch} {G : ks_G} {hh : KH} {M : ks_M} {d pc pc' : Nat} {lv : List (Nat × Value)} {st : List Value} {S : ks_S} {P : Option Value → ks_S → Prop}
theorem kl_copyi {t ix a0 a1 n0 n1 sp dp n : Nat} {ty : FieldType} {f g : Nat → Int32} (ht : (ks_tys G)[t]? = some (G.2.1 t, ty)) (hty : t = 1 → ty = .int) (hprim : refKind ty = false) (hb1 : a1 < ks_B) (h0 : S.2.2 a0 = some (.inl (t, n0, .inl f))) (h1 : S.2.2 a1 = some (.inl (t, n1, .inl g))) (hs : sp + n ≤ n0) (hdd : dp + n ≤ n1) (hn0 : n0 < 2 ^ 31) (hn1 : n1 < 2 ^ 31) (hfit : ∀ i, fits ty (.int (f i)) = true)
    (hlk : Cond.methodLink M.1 ix arraycopyName ∈ lw_tbl) (hnt : Cond.native arraycopyName ∈ lw_tbl) (hstc : Cond.static arraycopyName ∈ lw_tbl) (hini : Cond.initialized "java/lang/System" ∈ lw_tbl) (hd1 : 1 ≤ d) (hsm : (st.map fun v => v.category).sum ≤ 8) (hd : decode M.2.1 pc = .ok (.invokestatic ix, 3)) (hp : pc + 3 = pc') (k : ks_L l G hh M d pc' lv st (ks_set S a1 (.inl (t, n1, .inl (va_cpy f g sp dp n)))) P) : ks_L l G hh M d pc lv (.int (nI n) :: .int (nI dp) :: .ref a1 :: .int (nI sp) :: .ref a0 :: st) S P := by
  subst hp
  refine kl_write (S1 := ks_set S a1 (.inl (t, n1, .inl (va_cpy f g sp dp n)))) rfl rfl (fun p e R s m args below meth c H locs cells slots ls Q CC hH hS0 hls k => ?_) k
  obtain ⟨q1, q2, q3⟩ := ks_ltA hH h1 hb1
  have hK := CC.2.2.2.2.2.2.2.2.1.1
  show W p l e R s m args below meth c H locs cells slots Q (F0 m pc ls (.int (nI n) :: .int (nI dp) :: .ref (ks_ad G a1) :: .int (nI sp) :: .ref (ks_ad G a0) :: st.map (ks_v G)))
  rw [q2]
  have cn := nI_clamp (n := n) (by omega)
  have csp := nI_clamp (n := sp) (by omega)
  have cdp := nI_clamp (n := dp) (by omega)
  have e9 : nativeFrameWords "java/lang/System" "arraycopy" 5 + 11 ≤ 100 := by decide
  have key : ∀ cs : Cell, H[ks_ad G a0]? = some cs → s.isArrayOf cs ty → cs.vm ≠ .unknown → n0 ≤ cs.slots.size → (∀ j, j < n0 → cs.slots[j]? = some (.int (f j))) → W p l e R s m args below meth c H locs cells slots Q (F0 m pc ls (.int (nI n) :: .int (nI dp) :: .ref (G.2.2.1 + a1) :: .int (nI sp) :: .ref (ks_ad G a0) :: st.map (ks_v G))) := by
    intro cs g1 g2 g3 g4 g5
    refine ks_copyW (fun z => .int z) (sp := nI sp) (dp := nI dp) (n := nI n) (n1 := n1) (c1 := G.2.1 t) CC.1 CC.2.1 (hls.trans CC.2.2.2.1.symm) CC.2.2.2.2.1 (CC.2.2.2.2.2.1 _ hlk rfl) (CC.2.2.2.2.2.1 _ hnt rfl) (CC.2.2.2.2.2.1 _ hstc rfl) (CC.2.2.2.2.2.1 _ hini rfl) hprim g1 g2 g3 (f := f) (g := g) q3 ((hK.2 t _ ht).1 n1 _) (nI_pos (by omega)) (nI_pos (by omega)) (nI_pos (by omega)) (by rw [cn, csp]; omega) (by rw [cn, cdp]; omega) (fun i hi => by rw [cn] at hi; rw [csp]; exact g5 _ (by omega)) hfit (fun _ _ _ => trivial) (Nat.le_trans hd1 CC.2.2.2.2.2.2.2.2.2.1) (by rw [ks_cat]; have := CC.2.2.2.2.2.2.2.2.2.2; omega) hd fun H1 locs1 e1 z1 o1 l1 => ?_
    rw [cn, csp, cdp] at e1
    exact k H1 locs1 (hH.set q1 z1 o1 e1) (ks_locs hS0 z1 o1 l1)
  rcases hH.2.2.1 a0 _ h0 with ⟨b1, b2⟩ | ⟨j, q, ea, hq, he⟩
  · refine key (arrV (G.2.1 t) n0 (fun j => .int (f j))) ?_ ((hK.2 t _ ht).1 n0 _) (fun h => by cases h) (by rw [arrV_size]; exact Nat.le_refl _) (fun j hj => arrV_read _ _ hj)
    rw [ks_ad_lt (Nat.lt_of_lt_of_le b1 hH.2.1)]
    exact b2
  · cases he
    have e1 : ks_ad G a0 = G.2.2.2 j := by
      subst ea
      unfold ks_ad
      rw [if_neg (by omega), Nat.add_sub_cancel_left]
    obtain ⟨cell, g1, g2, g3, g4, g5, g6, g7⟩ := (hH.2.2.2 j q hq).2
    have ety := hty rfl
    subst ety
    exact key cell (by rw [e1]; exact g1) g2 g3 g4 g6
theorem kl_copyl {ix a0 a1 n0 n1 sp dp n : Nat} {f g : Nat → Int64} (h0 : S.2.2 a0 = some (.inl (2, n0, .inr (.inl f)))) (h1 : S.2.2 a1 = some (.inl (2, n1, .inr (.inl g)))) (hs : sp + n ≤ n0) (hdd : dp + n ≤ n1) (hn0 : n0 < 2 ^ 31) (hn1 : n1 < 2 ^ 31)
    (hlk : Cond.methodLink M.1 ix arraycopyName ∈ lw_tbl) (hnt : Cond.native arraycopyName ∈ lw_tbl) (hstc : Cond.static arraycopyName ∈ lw_tbl) (hini : Cond.initialized "java/lang/System" ∈ lw_tbl) (hd1 : 1 ≤ d) (hsm : (st.map fun v => v.category).sum ≤ 8) (hd : decode M.2.1 pc = .ok (.invokestatic ix, 3)) (hp : pc + 3 = pc') (k : ks_L l G hh M d pc' lv st (ks_set S a1 (.inl (2, n1, .inr (.inl (va_cpy f g sp dp n))))) P) : ks_L l G hh M d pc lv (.int (nI n) :: .int (nI dp) :: .ref a1 :: .int (nI sp) :: .ref a0 :: st) S P := by
  subst hp
  refine kl_write (S1 := ks_set S a1 (.inl (2, n1, .inr (.inl (va_cpy f g sp dp n))))) rfl rfl (fun p e R s m args below meth c H locs cells slots ls Q CC hH hS0 hls k => ?_) k
  obtain ⟨q1, q2, q3⟩ := ks_ltT hH h1 (by decide)
  obtain ⟨b1, b2, b3⟩ := ks_ltT hH h0 (by decide)
  have hK := CC.2.2.2.2.2.2.2.2.1.1
  show W p l e R s m args below meth c H locs cells slots Q (F0 m pc ls (.int (nI n) :: .int (nI dp) :: .ref (ks_ad G a1) :: .int (nI sp) :: .ref (ks_ad G a0) :: st.map (ks_v G)))
  rw [q2, b2]
  have cn := nI_clamp (n := n) (by omega)
  have csp := nI_clamp (n := sp) (by omega)
  have cdp := nI_clamp (n := dp) (by omega)
  have e9 : nativeFrameWords "java/lang/System" "arraycopy" 5 + 11 ≤ 100 := by decide
  refine ks_copyW (fun z => .long z) (sp := nI sp) (dp := nI dp) (n := nI n) (n1 := n1) (c1 := G.2.1 2) (cs := arrV (G.2.1 2) n0 (fun j => .long (f j))) CC.1 CC.2.1 (hls.trans CC.2.2.2.1.symm) CC.2.2.2.2.1 (CC.2.2.2.2.2.1 _ hlk rfl) (CC.2.2.2.2.2.1 _ hnt rfl) (CC.2.2.2.2.2.1 _ hstc rfl) (CC.2.2.2.2.2.1 _ hini rfl) (ty := .long) rfl b3 ((hK.2 2 (G.2.1 2, .long) rfl).1 n0 _) (fun h => by cases h) (f := f) (g := g) q3 ((hK.2 2 (G.2.1 2, .long) rfl).1 n1 _) (nI_pos (by omega)) (nI_pos (by omega)) (nI_pos (by omega)) (by rw [cn, csp, arrV_size]; omega) (by rw [cn, cdp]; omega) (fun i hi => by rw [cn] at hi; rw [csp]; exact arrV_read _ _ (by omega)) (fun _ => rfl) (fun _ _ _ => trivial) (Nat.le_trans hd1 CC.2.2.2.2.2.2.2.2.2.1) (by rw [ks_cat]; have := CC.2.2.2.2.2.2.2.2.2.2; omega) hd fun H1 locs1 e1 z1 o1 l1 => ?_
  rw [cn, csp, cdp] at e1
  exact k H1 locs1 (hH.set q1 z1 o1 e1) (ks_locs hS0 z1 o1 l1)
end KsCpL

section KsNL
variable {l : Launch} {G : ks_G} {hh : KH} {M : ks_M} {d pc pc' : Nat} {lv : List (Nat × Value)} {st : List Value} {S : ks_S} {P : Option Value → ks_S → Prop} {a n i : Nat} {ix : Int32}
theorem kl_baldB {g : Nat → Nat} (hS : S.2.2 a = some (kB n g)) (hix : ix = nI i) (hi : i < n) (hn : n < 2 ^ 31) (hd : decode M.2.1 pc = .ok (.baload, 1)) (hp : pc + 1 = pc') (k : ks_L l G hh M d pc' lv (.int (kb g i) :: st) S P) : ks_L l G hh M d pc lv (.int ix :: .ref a :: st) S P := by
  subst hix
  exact kl_bald hS (vp_in_nI hi hn) hd hp (by rw [nI_clamp (by omega)]; exact k)
theorem kl_bastB {g : Nat → Nat} {x : Int32} {c : Nat} (hS : S.2.2 a = some (kB n g)) (hix : ix = nI i) (hi : i < n) (hn : n < 2 ^ 31) (hx : ks_by x = c) (hd : decode M.2.1 pc = .ok (.bastore, 1)) (hp : pc + 1 = pc') (k : ks_L l G hh M d pc' lv st (ks_set S a (kB n (va_up g i c))) P) : ks_L l G hh M d pc lv (.int x :: .int ix :: .ref a :: st) S P := by
  subst hix
  subst hx
  exact kl_bast hS (vp_in_nI hi hn) hd hp (by rw [nI_clamp (by omega), kb_upd]; exact k)
theorem kl_ialdN {f : Nat → Int32} (hS : S.2.2 a = some (.inl (1, n, .inl f))) (hix : ix = nI i) (hi : i < n) (hn : n < 2 ^ 31) (hd : decode M.2.1 pc = .ok (.iaload, 1)) (hp : pc + 1 = pc') (k : ks_L l G hh M d pc' lv (.int (f i) :: st) S P) : ks_L l G hh M d pc lv (.int ix :: .ref a :: st) S P := by
  subst hix
  exact kl_iald hS (vp_in_nI hi hn) hd hp (by rw [nI_clamp (by omega)]; exact k)
theorem kl_iastN {f : Nat → Int32} {x : Int32} (hB : a < ks_B) (hS : S.2.2 a = some (.inl (1, n, .inl f))) (hix : ix = nI i) (hi : i < n) (hn : n < 2 ^ 31) (hd : decode M.2.1 pc = .ok (.iastore, 1)) (hp : pc + 1 = pc') (k : ks_L l G hh M d pc' lv st (ks_set S a (.inl (1, n, .inl (va_up f i x)))) P) : ks_L l G hh M d pc lv (.int x :: .int ix :: .ref a :: st) S P := by
  subst hix
  exact kl_iast hB hS (vp_in_nI hi hn) hd hp (by rw [nI_clamp (by omega)]; exact k)
theorem kl_laldN {f : Nat → Int64} (hS : S.2.2 a = some (.inl (2, n, .inr (.inl f)))) (hix : ix = nI i) (hi : i < n) (hn : n < 2 ^ 31) (hd : decode M.2.1 pc = .ok (.laload, 1)) (hp : pc + 1 = pc') (k : ks_L l G hh M d pc' lv (.long (f i) :: st) S P) : ks_L l G hh M d pc lv (.int ix :: .ref a :: st) S P := by
  subst hix
  exact kl_lald hS (vp_in_nI hi hn) hd hp (by rw [nI_clamp (by omega)]; exact k)
theorem kl_lastN {f : Nat → Int64} {x : Int64} (hS : S.2.2 a = some (.inl (2, n, .inr (.inl f)))) (hix : ix = nI i) (hi : i < n) (hn : n < 2 ^ 31) (hd : decode M.2.1 pc = .ok (.lastore, 1)) (hp : pc + 1 = pc') (k : ks_L l G hh M d pc' lv st (ks_set S a (.inl (2, n, .inr (.inl (va_up f i x))))) P) : ks_L l G hh M d pc lv (.long x :: .int ix :: .ref a :: st) S P := by
  subst hix
  exact kl_last hS (vp_in_nI hi hn) hd hp (by rw [nI_clamp (by omega)]; exact k)
theorem kl_aaldN {t : Nat} {g : Nat → Option Nat} (ht : t = 4 ∨ t = 5 ∨ t = 6 ∨ t = 7) (hS : S.2.2 a = some (.inl (t, n, .inr (.inr (.inr (.inr g)))))) (hix : ix = nI i) (hi : i < n) (hn : n < 2 ^ 31) {b : Nat} (hg : g i = some b) (hd : decode M.2.1 pc = .ok (.aaload, 1)) (hp : pc + 1 = pc') (k : ks_L l G hh M d pc' lv (.ref b :: st) S P) : ks_L l G hh M d pc lv (.int ix :: .ref a :: st) S P := by
  subst hix
  exact kl_aald ht hS (vp_in_nI hi hn) hd hp (by rw [nI_clamp (by omega), hg]; exact k)
theorem kl_alenT {t : Nat} {A : vp_A} (ht : t < 8) (ht1 : t ≠ 1) (hS : S.2.2 a = some (.inl (t, A))) (hn : A.1 = n) (hd : decode M.2.1 pc = .ok (.arraylength, 1)) (hp : pc + 1 = pc') (k : ks_L l G hh M d pc' lv (.int (nI n) :: st) S P) : ks_L l G hh M d pc lv (.ref a :: st) S P := by
  obtain ⟨v, S', ⟨hm, hV⟩, hP⟩ := k
  by_cases hb : a < ks_B
  · exact kl_alen ht hS hn hb hd hp ⟨v, S', ⟨hm, hV⟩, hP⟩
  · refine ⟨v, S', ⟨hm, fun p e R s m args below meth c H locs cells slots ls C hH => ?_⟩, hP⟩
    obtain ⟨h1, -, -⟩ := ks_ltT hH hS ht1
    exact absurd (Nat.lt_of_lt_of_le h1 hH.2.1) hb
end KsNL
section KsCBL
variable {l : Launch} {G : ks_G} {hh : KH} {M : ks_M} {d pc pc' : Nat} {lv : List (Nat × Value)} {st : List Value} {S : ks_S} {P : Option Value → ks_S → Prop}
theorem kl_copyB {ix a0 a1 n0 n1 sp dp n : Nat} {f g : Nat → Nat} {zn zd zs : Int32} (h0 : S.2.2 a0 = some (kB n0 f)) (h1 : S.2.2 a1 = some (kB n1 g)) (en : zn = nI n) (ed : zd = nI dp) (es : zs = nI sp) (hs : sp + n ≤ n0) (hdd : dp + n ≤ n1) (hn0 : n0 < 2 ^ 31) (hn1 : n1 < 2 ^ 31)
    (hlk : Cond.methodLink M.1 ix arraycopyName ∈ lw_tbl) (hnt : Cond.native arraycopyName ∈ lw_tbl) (hstc : Cond.static arraycopyName ∈ lw_tbl) (hini : Cond.initialized "java/lang/System" ∈ lw_tbl) (hd1 : 1 ≤ d) (hsm : (st.map fun v => v.category).sum ≤ 8) (hd : decode M.2.1 pc = .ok (.invokestatic ix, 3)) (hp : pc + 3 = pc') (k : ks_L l G hh M d pc' lv st (ks_set S a1 (kB n1 (va_cpy f g sp dp n))) P) : ks_L l G hh M d pc lv (.int zn :: .int zd :: .ref a1 :: .int zs :: .ref a0 :: st) S P := by
  subst en
  subst ed
  subst es
  obtain ⟨v, S', hV, hP⟩ := k
  by_cases hb : a1 < ks_B
  · refine kl_copyi (t := 0) (ty := .byte) rfl (fun h => by cases h) rfl hb h0 h1 hs hdd hn0 hn1 (fun _ => kb_fit _ _) hlk hnt hstc hini hd1 hsm hd hp ?_
    rw [kb_cpy]
    exact ⟨v, S', hV, hP⟩
  · refine ⟨v, S', ⟨hV.1, fun p e R s m args below meth c H locs cells slots ls C hH => ?_⟩, hP⟩
    obtain ⟨h2, -, -⟩ := ks_ltT hH h1 (by decide)
    exact absurd (Nat.lt_of_lt_of_le h2 hH.2.1) hb
end KsCBL

section KsNewL
variable {l : Launch} {G : ks_G} {hh : KH} {M : ks_M} {d pc pc' : Nat} {lv : List (Nat × Value)} {st : List Value} {S : ks_S} {P : Option Value → ks_S → Prop} {N : Nat}
theorem kl_newB (hw : Cond.arrayClass .byte ∈ lw_tbl) (hN : N < 1000000) (hB : S.1 < ks_B) (hd : decode M.2.1 pc = .ok (.newarray .byte, 2)) (hp : pc + 2 = pc') (k : ks_L l G hh M d pc' lv (.ref S.1 :: st) (ks_add S N (kB N (fun _ => 0))) P) : ks_L l G hh M d pc lv (.int (nI N) :: st) S P :=
  kl_newa (t := 0) (ty := .byte) (at9 := .byte) (A0 := (N, .inl (fun _ => 0))) rfl rfl (fun _ h => h) hw (fun _ => rfl) (nI_pos (by omega)) (nI_clamp (by omega)) (by show N * 1 ≤ _; omega) hB hd hp (by rw [kb_0]; exact k)
theorem kl_newZ (hw : Cond.arrayClass .boolean ∈ lw_tbl) (hN : N < 1000000) (hB : S.1 < ks_B) (hd : decode M.2.1 pc = .ok (.newarray .boolean, 2)) (hp : pc + 2 = pc') (k : ks_L l G hh M d pc' lv (.ref S.1 :: st) (ks_add S N (.inl (3, N, .inl (fun _ => 0)))) P) : ks_L l G hh M d pc lv (.int (nI N) :: st) S P :=
  kl_newa (t := 3) (ty := .boolean) (at9 := .boolean) (A0 := (N, .inl (fun _ => 0))) rfl rfl (fun _ h => h) hw (fun _ => rfl) (nI_pos (by omega)) (nI_clamp (by omega)) (by show N * 1 ≤ _; omega) hB hd hp k
theorem kl_newI (hw : Cond.arrayClass .int ∈ lw_tbl) (hN : N < 1000000) (hB : S.1 < ks_B) (hd : decode M.2.1 pc = .ok (.newarray .int, 2)) (hp : pc + 2 = pc') (k : ks_L l G hh M d pc' lv (.ref S.1 :: st) (ks_add S N (.inl (1, N, .inl (fun _ => 0)))) P) : ks_L l G hh M d pc lv (.int (nI N) :: st) S P :=
  kl_newa (t := 1) (ty := .int) (at9 := .int) (A0 := (N, .inl (fun _ => 0))) rfl rfl (fun _ h => h) hw (fun _ => rfl) (nI_pos (by omega)) (nI_clamp (by omega)) (by show N * 4 ≤ _; omega) hB hd hp k
theorem kl_newJ (hw : Cond.arrayClass .long ∈ lw_tbl) (hN : N < 1000000) (hB : S.1 < ks_B) (hd : decode M.2.1 pc = .ok (.newarray .long, 2)) (hp : pc + 2 = pc') (k : ks_L l G hh M d pc' lv (.ref S.1 :: st) (ks_add S N (.inl (2, N, .inr (.inl (fun _ => 0))))) P) : ks_L l G hh M d pc lv (.int (nI N) :: st) S P :=
  kl_newa (t := 2) (ty := .long) (at9 := .long) (A0 := (N, .inr (.inl (fun _ => 0)))) rfl rfl (fun _ h => h) hw (fun _ => rfl) (nI_pos (by omega)) (nI_clamp (by omega)) (by show N * 8 ≤ _; omega) hB hd hp k
end KsNewL
section KsMathL
variable {l : Launch} {G : ks_G} {hh : KH} {M : ks_M} {d pc pc' : Nat} {lv : List (Nat × Value)} {st : List Value} {S : ks_S} {P : Option Value → ks_S → Prop}
theorem kl_maxJ {ix : Nat} {x y : Int64} (hlk : Cond.methodLink M.1 ix Lib.MathLoose.max_long.x ∈ lw_tbl) (hstc : Cond.static Lib.MathLoose.max_long.x ∈ lw_tbl) (hini : Cond.initialized "java/lang/Math" ∈ lw_tbl) (hcd : Cond.code Lib.MathLoose.max_long.x Lib.MathLoose.max_long.code 4 (some .long) ∈ lw_tbl) (hd1 : 1 ≤ d) (hsm : (st.map fun v => v.category).sum ≤ 8) (hd : decode M.2.1 pc = .ok (.invokestatic ix, 3)) (hp : pc + 3 = pc') (k : ks_L l G hh M d pc' lv (.long (if y < x then x else y) :: st) S P) : ks_L l G hh M d pc lv (.long y :: .long x :: st) S P := by
  subst hp
  obtain ⟨v, S', ⟨hm, hV⟩, hP⟩ := k
  refine ⟨v, S', ⟨hm, fun p e R s m args below meth c H locs cells slots ls C hH hS hl h1 h2 => ?_⟩, hP⟩
  exact va_mmax_long C.1 C.2.1 (C.2.2.2.1.trans hl.1.symm) C.2.2.2.2.1 (C.2.2.2.2.2.1 _ hlk rfl) (C.2.2.2.2.2.1 _ hstc rfl) (C.2.2.2.2.2.1 _ hini rfl) (C.2.2.2.2.2.1 _ hcd rfl) (Nat.le_trans hd1 C.2.2.2.2.2.2.2.2.2.1) (by rw [ks_cat]; have := C.2.2.2.2.2.2.2.2.2.2; omega) (by omega) (by omega) hd (hV p e R s m args below meth c H locs cells slots ls C hH hS hl h1 h2)
theorem kl_minJ {ix : Nat} {x y : Int64} (hlk : Cond.methodLink M.1 ix Lib.MathLoose.min_long.x ∈ lw_tbl) (hstc : Cond.static Lib.MathLoose.min_long.x ∈ lw_tbl) (hini : Cond.initialized "java/lang/Math" ∈ lw_tbl) (hcd : Cond.code Lib.MathLoose.min_long.x Lib.MathLoose.min_long.code 4 (some .long) ∈ lw_tbl) (hd1 : 1 ≤ d) (hsm : (st.map fun v => v.category).sum ≤ 8) (hd : decode M.2.1 pc = .ok (.invokestatic ix, 3)) (hp : pc + 3 = pc') (k : ks_L l G hh M d pc' lv (.long (if y < x then y else x) :: st) S P) : ks_L l G hh M d pc lv (.long y :: .long x :: st) S P := by
  subst hp
  obtain ⟨v, S', ⟨hm, hV⟩, hP⟩ := k
  refine ⟨v, S', ⟨hm, fun p e R s m args below meth c H locs cells slots ls C hH hS hl h1 h2 => ?_⟩, hP⟩
  exact va_mmin_long C.1 C.2.1 (C.2.2.2.1.trans hl.1.symm) C.2.2.2.2.1 (C.2.2.2.2.2.1 _ hlk rfl) (C.2.2.2.2.2.1 _ hstc rfl) (C.2.2.2.2.2.1 _ hini rfl) (C.2.2.2.2.2.1 _ hcd rfl) (Nat.le_trans hd1 C.2.2.2.2.2.2.2.2.2.1) (by rw [ks_cat]; have := C.2.2.2.2.2.2.2.2.2.2; omega) (by omega) (by omega) hd (hV p e R s m args below meth c H locs cells slots ls C hH hS hl h1 h2)
end KsMathL

section KsML
variable {l : Launch} {G : ks_G} {hh : KH} {M : ks_M} {d pc pc' tgt : Nat} {lv : List (Nat × Value)} {st : List Value} {S : ks_S} {P : Option Value → ks_S → Prop} {a b k : Nat} {x y : Int32} {off : Int}
theorem kl_addN  (hd : decode M.2.1 pc = .ok (.iadd, 1)) (hp : pc + 1 = pc') (k9 : ks_L l G hh M d pc' lv (.int (nI (a + b)) :: st) S P) : ks_L l G hh M d pc lv (.int (nI b) :: .int (nI a) :: st) S P := kl_iadd hd hp (kl_ti (nI_add a b) k9)
theorem kl_subN (h : b ≤ a) (hd : decode M.2.1 pc = .ok (.isub, 1)) (hp : pc + 1 = pc') (k9 : ks_L l G hh M d pc' lv (.int (nI (a - b)) :: st) S P) : ks_L l G hh M d pc lv (.int (nI b) :: .int (nI a) :: st) S P := kl_isub hd hp (kl_ti (pk_sub h) k9)
theorem kl_mulN  (hd : decode M.2.1 pc = .ok (.imul, 1)) (hp : pc + 1 = pc') (k9 : ks_L l G hh M d pc' lv (.int (nI (a * b)) :: st) S P) : ks_L l G hh M d pc lv (.int (nI b) :: .int (nI a) :: st) S P := kl_imul hd hp (kl_ti (pk_mul a b) k9)
theorem kl_divN (ha : a < 2 ^ 31) (h0 : 0 < b) (hb : b < 2 ^ 31) (hd : decode M.2.1 pc = .ok (.idiv, 1)) (hp : pc + 1 = pc') (k9 : ks_L l G hh M d pc' lv (.int (nI (a / b)) :: st) S P) : ks_L l G hh M d pc lv (.int (nI b) :: .int (nI a) :: st) S P := kl_idiv hd (nI_ne0 h0 hb) hp (kl_ti (pk_div ha h0 hb) k9)
theorem kl_remN (ha : a < 2 ^ 31) (h0 : 0 < b) (hb : b < 2 ^ 31) (hd : decode M.2.1 pc = .ok (.irem, 1)) (hp : pc + 1 = pc') (k9 : ks_L l G hh M d pc' lv (.int (nI (a % b)) :: st) S P) : ks_L l G hh M d pc lv (.int (nI b) :: .int (nI a) :: st) S P := kl_irem hd (nI_ne0 h0 hb) hp (kl_ti (pk_rem ha h0 hb) k9)
theorem kl_andN (ha : a < 2 ^ 32) (hm : (nI b).toBitVec.toNat = 2 ^ k - 1) (hd : decode M.2.1 pc = .ok (.iand, 1)) (hp : pc + 1 = pc') (k9 : ks_L l G hh M d pc' lv (.int (nI (a % 2 ^ k)) :: st) S P) : ks_L l G hh M d pc lv (.int (nI b) :: .int (nI a) :: st) S P := kl_iand hd hp (kl_ti (pk_andN ha k hm) k9)
theorem kl_andB {g : Nat → Nat} {i : Nat} (hg : g i < 256) (hd : decode M.2.1 pc = .ok (.iand, 1)) (hp : pc + 1 = pc') (k9 : ks_L l G hh M d pc' lv (.int (nI (g i)) :: st) S P) : ks_L l G hh M d pc lv (.int (nI 255) :: .int (kb g i) :: st) S P := kl_iand hd hp (kl_ti (kb_and hg) k9)
theorem kl_shlN (hk : ((nI b &&& 31).toBitVec.smod 32).toNat = k) (h : a * 2 ^ k < 2 ^ 32) (hd : decode M.2.1 pc = .ok (.ishl, 1)) (hp : pc + 1 = pc') (k9 : ks_L l G hh M d pc' lv (.int (nI (a * 2 ^ k)) :: st) S P) : ks_L l G hh M d pc lv (.int (nI b) :: .int (nI a) :: st) S P := kl_ishl hd hp (kl_ti (pk_shlN _ k hk h) k9)
theorem kl_shrN (hk : ((nI b &&& 31).toBitVec.smod 32).toNat = k) (ha : a < 2 ^ 31) (hd : decode M.2.1 pc = .ok (.ishr, 1)) (hp : pc + 1 = pc') (k9 : ks_L l G hh M d pc' lv (.int (nI (a / 2 ^ k)) :: st) S P) : ks_L l G hh M d pc lv (.int (nI b) :: .int (nI a) :: st) S P := kl_ishr hd hp (kl_ti (pk_shrN ha _ k hk) k9)
theorem kl_ushrN (hk : (((nI b).toUInt32 &&& Int32.toUInt32 31).toBitVec % 32).toNat = k) (ha : a < 2 ^ 32) (hd : decode M.2.1 pc = .ok (.iushr, 1)) (hp : pc + 1 = pc') (k9 : ks_L l G hh M d pc' lv (.int (nI (a / 2 ^ k)) :: st) S P) : ks_L l G hh M d pc lv (.int (nI b) :: .int (nI a) :: st) S P := kl_iushr hd hp (kl_ti (pk_ushrN ha _ k hk) k9)
theorem kl_or2 (hb : b < 2 ^ k) (h : a * 2 ^ k + b < 2 ^ 32) (hd : decode M.2.1 pc = .ok (.ior, 1)) (hp : pc + 1 = pc') (k9 : ks_L l G hh M d pc' lv (.int (nI (a * 2 ^ k + b)) :: st) S P) : ks_L l G hh M d pc lv (.int (nI b) :: .int (nI (a * 2 ^ k)) :: st) S P := kl_ior hd hp (kl_ti (nx_orN hb h) k9)
theorem kl_i2lN (ha : a < 2 ^ 31) (hd : decode M.2.1 pc = .ok (.i2l, 1)) (hp : pc + 1 = pc') (k9 : ks_L l G hh M d pc' lv (.long (lN a) :: st) S P) : ks_L l G hh M d pc lv (.int (nI a) :: st) S P := kl_i2l hd hp (kl_tl (nI_l ha) k9)
theorem kl_l2iN  (hd : decode M.2.1 pc = .ok (.l2i, 1)) (hp : pc + 1 = pc') (k9 : ks_L l G hh M d pc' lv (.int (nI a) :: st) S P) : ks_L l G hh M d pc lv (.long (lN a) :: st) S P := kl_l2i hd hp (kl_ti (lN_i a) k9)
theorem kl_laddN  (hd : decode M.2.1 pc = .ok (.ladd, 1)) (hp : pc + 1 = pc') (k9 : ks_L l G hh M d pc' lv (.long (lN (a + b)) :: st) S P) : ks_L l G hh M d pc lv (.long (lN b) :: .long (lN a) :: st) S P := kl_ladd hd hp (kl_tl (lN_add a b) k9)
theorem kl_lsubN (h : b ≤ a) (hd : decode M.2.1 pc = .ok (.lsub, 1)) (hp : pc + 1 = pc') (k9 : ks_L l G hh M d pc' lv (.long (lN (a - b)) :: st) S P) : ks_L l G hh M d pc lv (.long (lN b) :: .long (lN a) :: st) S P := kl_lsub hd hp (kl_tl (lN_sub h) k9)
theorem kl_lmulN  (hd : decode M.2.1 pc = .ok (.lmul, 1)) (hp : pc + 1 = pc') (k9 : ks_L l G hh M d pc' lv (.long (lN (a * b)) :: st) S P) : ks_L l G hh M d pc lv (.long (lN b) :: .long (lN a) :: st) S P := kl_lmul hd hp (kl_tl (lN_mul a b) k9)
theorem kl_ldivN (ha : a < 2 ^ 63) (h0 : 0 < b) (hb : b < 2 ^ 63) (hne : ¬ lN b = 0) (hd : decode M.2.1 pc = .ok (.ldiv, 1)) (hp : pc + 1 = pc') (k9 : ks_L l G hh M d pc' lv (.long (lN (a / b)) :: st) S P) : ks_L l G hh M d pc lv (.long (lN b) :: .long (lN a) :: st) S P := kl_ldiv hd hne hp (kl_tl (pk_lDiv ha h0 hb) k9)
theorem kl_lremN (ha : a < 2 ^ 63) (h0 : 0 < b) (hb : b < 2 ^ 63) (hne : ¬ lN b = 0) (hd : decode M.2.1 pc = .ok (.lrem, 1)) (hp : pc + 1 = pc') (k9 : ks_L l G hh M d pc' lv (.long (lN (a % b)) :: st) S P) : ks_L l G hh M d pc lv (.long (lN b) :: .long (lN a) :: st) S P := kl_lrem hd hne hp (kl_tl (pk_lRem ha h0 hb) k9)
theorem kl_landN {p : Nat} (hp2 : 2 ^ k = p) (hb : b + 1 = p) (hk : k < 64) (ha : a < 2 ^ 64) (hd : decode M.2.1 pc = .ok (.land, 1)) (hp : pc + 1 = pc') (k9 : ks_L l G hh M d pc' lv (.long (lN (a % p)) :: st) S P) : ks_L l G hh M d pc lv (.long (lN b) :: .long (lN a) :: st) S P := kl_land hd hp (kl_tl (by rw [show b = p - 1 by omega]; exact g_mask hp2 hk ha) k9)
theorem kl_lushrN (hk : k < 64) (ha : a < 2 ^ 64) (hd : decode M.2.1 pc = .ok (.lushr, 1)) (hp : pc + 1 = pc') (k9 : ks_L l G hh M d pc' lv (.long (lN (a / 2 ^ k)) :: st) S P) : ks_L l G hh M d pc lv (.int (nI k) :: .long (lN a) :: st) S P := kl_lushr hd hp (kl_tl (wb_shr ha hk) k9)
theorem kl_lshlN (hk : k < 64) (hd : decode M.2.1 pc = .ok (.lshl, 1)) (hp : pc + 1 = pc') (k9 : ks_L l G hh M d pc' lv (.long (lN (a * 2 ^ k)) :: st) S P) : ks_L l G hh M d pc lv (.int (nI k) :: .long (lN a) :: st) S P := kl_lshl hd hp (kl_tl (wb_shl a hk) k9)
theorem kl_lshrN (hk : ((nI b).toInt64 &&& 63).toBitVec.smod 64 = BitVec.ofNat 64 k) (hk2 : k < 64) (ha : a < 2 ^ 62) (hd : decode M.2.1 pc = .ok (.lshr, 1)) (hp : pc + 1 = pc') (k9 : ks_L l G hh M d pc' lv (.long (lN (a / 2 ^ k)) :: st) S P) : ks_L l G hh M d pc lv (.int (nI b) :: .long (lN a) :: st) S P := kl_lshr hd hp (kl_tl (pf_shr (by rw [hk, BitVec.toNat_ofNat]; exact Nat.mod_eq_of_lt (by omega)) ha) k9)
theorem kl_lorN {p : Nat} (hp2 : 2 ^ k = p) (hb : b < p) (h : a * p + b < 2 ^ 64) (hd : decode M.2.1 pc = .ok (.lor, 1)) (hp : pc + 1 = pc') (k9 : ks_L l G hh M d pc' lv (.long (lN (a * p + b)) :: st) S P) : ks_L l G hh M d pc lv (.long (lN b) :: .long (lN (a * p)) :: st) S P := kl_lor hd hp (kl_tl (g_or hp2 hb h) k9)
theorem kl_icmp_eqN (ha : a < 2 ^ 31) (hb : b < 2 ^ 31) (hd : decode M.2.1 pc = .ok (.if_icmp .eq off, 3)) (ht : (pc : Int) + off = (tgt : Int)) (hp : pc + 3 = pc') (kt : a = b → ks_L l G hh M d tgt lv st S P) (kf : ¬ a = b → ks_L l G hh M d pc' lv st S P) : ks_L l G hh M d pc lv (.int (nI b) :: .int (nI a) :: st) S P := kl_icmp_eq hd ht hp (fun hc => kt ((nI_eq ha hb).mp hc)) (fun hc => kf (fun h => hc ((nI_eq ha hb).mpr h)))
theorem kl_icmp_neN (ha : a < 2 ^ 31) (hb : b < 2 ^ 31) (hd : decode M.2.1 pc = .ok (.if_icmp .ne off, 3)) (ht : (pc : Int) + off = (tgt : Int)) (hp : pc + 3 = pc') (kt : ¬ a = b → ks_L l G hh M d tgt lv st S P) (kf : a = b → ks_L l G hh M d pc' lv st S P) : ks_L l G hh M d pc lv (.int (nI b) :: .int (nI a) :: st) S P := kl_icmp_ne hd ht hp (fun hc => kt (fun h => hc ((nI_eq ha hb).mpr h))) (fun hc => kf ((nI_eq ha hb).mp hc))
theorem kl_icmp_ltN (ha : a < 2 ^ 31) (hb : b < 2 ^ 31) (hd : decode M.2.1 pc = .ok (.if_icmp .lt off, 3)) (ht : (pc : Int) + off = (tgt : Int)) (hp : pc + 3 = pc') (kt : a < b → ks_L l G hh M d tgt lv st S P) (kf : ¬ a < b → ks_L l G hh M d pc' lv st S P) : ks_L l G hh M d pc lv (.int (nI b) :: .int (nI a) :: st) S P := kl_icmp_lt hd ht hp (fun hc => kt ((nI_ltI ha hb).mp hc)) (fun hc => kf (fun h => hc ((nI_ltI ha hb).mpr h)))
theorem kl_icmp_geN (ha : a < 2 ^ 31) (hb : b < 2 ^ 31) (hd : decode M.2.1 pc = .ok (.if_icmp .ge off, 3)) (ht : (pc : Int) + off = (tgt : Int)) (hp : pc + 3 = pc') (kt : b ≤ a → ks_L l G hh M d tgt lv st S P) (kf : ¬ b ≤ a → ks_L l G hh M d pc' lv st S P) : ks_L l G hh M d pc lv (.int (nI b) :: .int (nI a) :: st) S P := kl_icmp_ge hd ht hp (fun hc => kt ((nI_leI hb ha).mp hc)) (fun hc => kf (fun h => hc ((nI_leI hb ha).mpr h)))
theorem kl_icmp_gtN (ha : a < 2 ^ 31) (hb : b < 2 ^ 31) (hd : decode M.2.1 pc = .ok (.if_icmp .gt off, 3)) (ht : (pc : Int) + off = (tgt : Int)) (hp : pc + 3 = pc') (kt : b < a → ks_L l G hh M d tgt lv st S P) (kf : ¬ b < a → ks_L l G hh M d pc' lv st S P) : ks_L l G hh M d pc lv (.int (nI b) :: .int (nI a) :: st) S P := kl_icmp_gt hd ht hp (fun hc => kt ((nI_ltI hb ha).mp hc)) (fun hc => kf (fun h => hc ((nI_ltI hb ha).mpr h)))
theorem kl_icmp_leN (ha : a < 2 ^ 31) (hb : b < 2 ^ 31) (hd : decode M.2.1 pc = .ok (.if_icmp .le off, 3)) (ht : (pc : Int) + off = (tgt : Int)) (hp : pc + 3 = pc') (kt : a ≤ b → ks_L l G hh M d tgt lv st S P) (kf : ¬ a ≤ b → ks_L l G hh M d pc' lv st S P) : ks_L l G hh M d pc lv (.int (nI b) :: .int (nI a) :: st) S P := kl_icmp_le hd ht hp (fun hc => kt ((nI_leI ha hb).mp hc)) (fun hc => kf (fun h => hc ((nI_leI ha hb).mpr h)))
theorem kl_if_eqN (ha : a < 2 ^ 31) (hd : decode M.2.1 pc = .ok (.ifCond .eq off, 3)) (ht : (pc : Int) + off = (tgt : Int)) (hp : pc + 3 = pc') (kt : a = 0 → ks_L l G hh M d tgt lv st S P) (kf : ¬ a = 0 → ks_L l G hh M d pc' lv st S P) : ks_L l G hh M d pc lv (.int (nI a) :: st) S P := kl_if_eq hd ht hp (fun hc => kt ((nI_z ha).mp hc)) (fun hc => kf (fun h => hc ((nI_z ha).mpr h)))
theorem kl_if_neN (ha : a < 2 ^ 31) (hd : decode M.2.1 pc = .ok (.ifCond .ne off, 3)) (ht : (pc : Int) + off = (tgt : Int)) (hp : pc + 3 = pc') (kt : ¬ a = 0 → ks_L l G hh M d tgt lv st S P) (kf : a = 0 → ks_L l G hh M d pc' lv st S P) : ks_L l G hh M d pc lv (.int (nI a) :: st) S P := kl_if_ne hd ht hp (fun hc => kt (fun h => hc ((nI_z ha).mpr h))) (fun hc => kf ((nI_z ha).mp hc))
theorem kl_if_gtN (ha : a < 2 ^ 31) (hd : decode M.2.1 pc = .ok (.ifCond .gt off, 3)) (ht : (pc : Int) + off = (tgt : Int)) (hp : pc + 3 = pc') (kt : 0 < a → ks_L l G hh M d tgt lv st S P) (kf : a = 0 → ks_L l G hh M d pc' lv st S P) : ks_L l G hh M d pc lv (.int (nI a) :: st) S P := kl_if_gt hd ht hp (fun hc => kt ((nI_gz ha).mp hc)) (fun hc => kf (Nat.eq_zero_of_not_pos (fun h => hc ((nI_gz ha).mpr h))))
theorem kl_if_leN (ha : a < 2 ^ 31) (hd : decode M.2.1 pc = .ok (.ifCond .le off, 3)) (ht : (pc : Int) + off = (tgt : Int)) (hp : pc + 3 = pc') (kt : a = 0 → ks_L l G hh M d tgt lv st S P) (kf : 0 < a → ks_L l G hh M d pc' lv st S P) : ks_L l G hh M d pc lv (.int (nI a) :: st) S P := kl_if_le hd ht hp (fun hc => kt ((nI_lz ha).mp hc)) (fun hc => kf (Nat.pos_of_ne_zero (fun h => hc ((nI_lz ha).mpr h))))
theorem kl_if_ltN (ha : a < 2 ^ 31) (hd : decode M.2.1 pc = .ok (.ifCond .lt off, 3)) (ht : (pc : Int) + off = (tgt : Int)) (hp : pc + 3 = pc') (kf : ks_L l G hh M d pc' lv st S P) : ks_L l G hh M d pc lv (.int (nI a) :: st) S P := kl_if_lt hd ht hp (fun hc => absurd hc (nI_pos ha)) (fun _ => kf)
theorem kl_if_geN (ha : a < 2 ^ 31) (hd : decode M.2.1 pc = .ok (.ifCond .ge off, 3)) (ht : (pc : Int) + off = (tgt : Int)) (kt : ks_L l G hh M d tgt lv st S P) : ks_L l G hh M d pc lv (.int (nI a) :: st) S P := kl_if_ge hd ht rfl (fun _ => kt) (fun hc => absurd (nI_pos' ha) hc)
theorem kl_if_ltD (hk : k < 2 ^ 30) (hd : decode M.2.1 pc = .ok (.ifCond .lt off, 3)) (ht : (pc : Int) + off = (tgt : Int)) (hp : pc + 3 = pc') (kt : k = 0 → ks_L l G hh M d tgt lv st S P) (kf : ¬ k = 0 → ks_L l G hh M d pc' lv st S P) : ks_L l G hh M d pc lv (.int (nI k - 1) :: st) S P := kl_if_lt hd ht hp (fun hc => kt ((nI_m1lt hk).mp hc)) (fun hc => kf (fun h => hc ((nI_m1lt hk).mpr h)))
theorem kl_if_geD (hk : k < 2 ^ 30) (hd : decode M.2.1 pc = .ok (.ifCond .ge off, 3)) (ht : (pc : Int) + off = (tgt : Int)) (hp : pc + 3 = pc') (kt : ¬ k = 0 → ks_L l G hh M d tgt lv st S P) (kf : k = 0 → ks_L l G hh M d pc' lv st S P) : ks_L l G hh M d pc lv (.int (nI k - 1) :: st) S P := kl_if_ge hd ht hp (fun hc => kt (fun h => absurd ((nI_m1lt hk).mpr h) (Int32.not_lt.mpr hc))) (fun hc => kf ((nI_m1lt hk).mp (Int32.not_le.mp hc)))
theorem kl_subD (hd : decode M.2.1 pc = .ok (.isub, 1)) (hp : pc + 1 = pc') (k9 : ks_L l G hh M d pc' lv (.int (nI a - 1) :: st) S P) : ks_L l G hh M d pc lv (.int (nI 1) :: .int (nI a) :: st) S P := kl_isub hd hp (kl_ti rfl k9)
theorem kl_incD {i : Nat} {n : Int} (hd : decode M.2.1 pc = .ok (.iinc i n, 3)) (hg : ks_get lv i = some (.int (nI a))) (hn1 : Int32.ofInt n = -1) (hn : i < M.2.2.1) (hp : pc + 3 = pc') (k9 : ks_L l G hh M d pc' (ks_put1 lv i (.int (nI a - 1))) st S P) : ks_L l G hh M d pc lv st S P := kl_iinc hd hg (by rw [hn1]; exact (Int32.sub_eq_add_neg (nI a) 1).symm) hn hp k9
theorem kl_incN {i : Nat} {n : Int} {c e : Nat} (hd : decode M.2.1 pc = .ok (.iinc i n, 3)) (hg : ks_get lv i = some (.int (nI a))) (hn1 : Int32.ofInt n = nI c) (he : a + c = e) (hn : i < M.2.2.1) (hp : pc + 3 = pc') (k9 : ks_L l G hh M d pc' (ks_put1 lv i (.int (nI e))) st S P) : ks_L l G hh M d pc lv st S P := kl_iinc hd hg (by rw [hn1, nI_add, he]) hn hp k9
theorem kl_decN {i : Nat} {n : Int} {e : Nat} (hd : decode M.2.1 pc = .ok (.iinc i n, 3)) (hg : ks_get lv i = some (.int (nI a))) (hn1 : Int32.ofInt n = -1) (he : a = e + 1) (hn : i < M.2.2.1) (hp : pc + 3 = pc') (k9 : ks_L l G hh M d pc' (ks_put1 lv i (.int (nI e))) st S P) : ks_L l G hh M d pc lv st S P := kl_iinc hd hg (by rw [hn1, he]; exact pk_m1 e) hn hp k9
theorem kl_icmp_eqY {f g : Nat → Nat} {i j : Nat} (hf : f i < 256) (hg : g j < 256) (hd : decode M.2.1 pc = .ok (.if_icmp .eq off, 3)) (ht : (pc : Int) + off = (tgt : Int)) (hp : pc + 3 = pc') (kt : f i = g j → ks_L l G hh M d tgt lv st S P) (kf : ¬ f i = g j → ks_L l G hh M d pc' lv st S P) : ks_L l G hh M d pc lv (.int (kb g j) :: .int (kb f i) :: st) S P := kl_icmp_eq hd ht hp (fun hc => kt (kb_inj _ hf _ hg hc)) (fun hc => kf (fun h => hc (congrArg sb_b h)))
theorem kl_icmp_neY {f g : Nat → Nat} {i j : Nat} (hf : f i < 256) (hg : g j < 256) (hd : decode M.2.1 pc = .ok (.if_icmp .ne off, 3)) (ht : (pc : Int) + off = (tgt : Int)) (hp : pc + 3 = pc') (kt : ¬ f i = g j → ks_L l G hh M d tgt lv st S P) (kf : f i = g j → ks_L l G hh M d pc' lv st S P) : ks_L l G hh M d pc lv (.int (kb g j) :: .int (kb f i) :: st) S P := kl_icmp_ne hd ht hp (fun hc => kt (fun h => hc (congrArg sb_b h))) (fun hc => kf (kb_inj _ hf _ hg hc))
theorem kl_icmp_eqYN {f : Nat → Nat} {i : Nat} (hf : f i < 256) (hb : b < 128) (hd : decode M.2.1 pc = .ok (.if_icmp .eq off, 3)) (ht : (pc : Int) + off = (tgt : Int)) (hp : pc + 3 = pc') (kt : f i = b → ks_L l G hh M d tgt lv st S P) (kf : ¬ f i = b → ks_L l G hh M d pc' lv st S P) : ks_L l G hh M d pc lv (.int (nI b) :: .int (kb f i) :: st) S P := kl_icmp_eq hd ht hp (fun hc => kt ((kb_eqn hf hb).mp hc)) (fun hc => kf (fun h => hc ((kb_eqn hf hb).mpr h)))
theorem kl_icmp_neYN {f : Nat → Nat} {i : Nat} (hf : f i < 256) (hb : b < 128) (hd : decode M.2.1 pc = .ok (.if_icmp .ne off, 3)) (ht : (pc : Int) + off = (tgt : Int)) (hp : pc + 3 = pc') (kt : ¬ f i = b → ks_L l G hh M d tgt lv st S P) (kf : f i = b → ks_L l G hh M d pc' lv st S P) : ks_L l G hh M d pc lv (.int (nI b) :: .int (kb f i) :: st) S P := kl_icmp_ne hd ht hp (fun hc => kt (fun h => hc ((kb_eqn hf hb).mpr h))) (fun hc => kf ((kb_eqn hf hb).mp hc))
theorem kl_icmp_eqYM {f : Nat → Nat} {i : Nat} (hf : f i < 256) (b : Nat) (hb : b < 256) (hm : x = sb_b b) (hd : decode M.2.1 pc = .ok (.if_icmp .eq off, 3)) (ht : (pc : Int) + off = (tgt : Int)) (hp : pc + 3 = pc') (kt : f i = b → ks_L l G hh M d tgt lv st S P) (kf : ¬ f i = b → ks_L l G hh M d pc' lv st S P) : ks_L l G hh M d pc lv (.int x :: .int (kb f i) :: st) S P := kl_icmp_eq hd ht hp (fun hc => kt ((kb_eqm hf hb hm).mp hc)) (fun hc => kf (fun h => hc ((kb_eqm hf hb hm).mpr h)))
theorem kl_icmp_neYM {f : Nat → Nat} {i : Nat} (hf : f i < 256) (b : Nat) (hb : b < 256) (hm : x = sb_b b) (hd : decode M.2.1 pc = .ok (.if_icmp .ne off, 3)) (ht : (pc : Int) + off = (tgt : Int)) (hp : pc + 3 = pc') (kt : ¬ f i = b → ks_L l G hh M d tgt lv st S P) (kf : f i = b → ks_L l G hh M d pc' lv st S P) : ks_L l G hh M d pc lv (.int x :: .int (kb f i) :: st) S P := kl_icmp_ne hd ht hp (fun hc => kt (fun h => hc ((kb_eqm hf hb hm).mpr h))) (fun hc => kf ((kb_eqm hf hb hm).mp hc))
theorem kl_if_eqY {f : Nat → Nat} {i : Nat} (hf : f i < 256) (hd : decode M.2.1 pc = .ok (.ifCond .eq off, 3)) (ht : (pc : Int) + off = (tgt : Int)) (hp : pc + 3 = pc') (kt : f i = 0 → ks_L l G hh M d tgt lv st S P) (kf : ¬ f i = 0 → ks_L l G hh M d pc' lv st S P) : ks_L l G hh M d pc lv (.int (kb f i) :: st) S P := kl_if_eq hd ht hp (fun hc => kt ((kb_e0 hf).mp hc)) (fun hc => kf (fun h => hc ((kb_e0 hf).mpr h)))
theorem kl_if_neY {f : Nat → Nat} {i : Nat} (hf : f i < 256) (hd : decode M.2.1 pc = .ok (.ifCond .ne off, 3)) (ht : (pc : Int) + off = (tgt : Int)) (hp : pc + 3 = pc') (kt : ¬ f i = 0 → ks_L l G hh M d tgt lv st S P) (kf : f i = 0 → ks_L l G hh M d pc' lv st S P) : ks_L l G hh M d pc lv (.int (kb f i) :: st) S P := kl_if_ne hd ht hp (fun hc => kt (fun h => hc ((kb_e0 hf).mpr h))) (fun hc => kf ((kb_e0 hf).mp hc))
theorem kl_if_ltY {f : Nat → Nat} {i : Nat} (hf : f i < 256) (hd : decode M.2.1 pc = .ok (.ifCond .lt off, 3)) (ht : (pc : Int) + off = (tgt : Int)) (hp : pc + 3 = pc') (kt : 128 ≤ f i → ks_L l G hh M d tgt lv st S P) (kf : ¬ 128 ≤ f i → ks_L l G hh M d pc' lv st S P) : ks_L l G hh M d pc lv (.int (kb f i) :: st) S P := kl_if_lt hd ht hp (fun hc => kt ((kb_neg _ hf).mp hc)) (fun hc => kf (fun h => hc ((kb_neg _ hf).mpr h)))
theorem kl_if_geY {f : Nat → Nat} {i : Nat} (hf : f i < 256) (hd : decode M.2.1 pc = .ok (.ifCond .ge off, 3)) (ht : (pc : Int) + off = (tgt : Int)) (hp : pc + 3 = pc') (kt : ¬ 128 ≤ f i → ks_L l G hh M d tgt lv st S P) (kf : 128 ≤ f i → ks_L l G hh M d pc' lv st S P) : ks_L l G hh M d pc lv (.int (kb f i) :: st) S P := kl_if_ge hd ht hp (fun hc => kt (fun h => absurd ((kb_neg _ hf).mpr h) (Int32.not_lt.mpr hc))) (fun hc => kf ((kb_neg _ hf).mp (Int32.not_le.mp hc)))
theorem kl_if_eqZ {z : Bool} (hd : decode M.2.1 pc = .ok (.ifCond .eq off, 3)) (ht : (pc : Int) + off = (tgt : Int)) (hp : pc + 3 = pc') (kt : z = false → ks_L l G hh M d tgt lv st S P) (kf : z = true → ks_L l G hh M d pc' lv st S P) : ks_L l G hh M d pc lv (.int (ks_bo z) :: st) S P := kl_if_eq hd ht hp (fun hc => kt ((ks_bo_0 z).mp hc)) (fun hc => kf (by cases z; exact absurd rfl hc; rfl))
theorem kl_if_neZ {z : Bool} (hd : decode M.2.1 pc = .ok (.ifCond .ne off, 3)) (ht : (pc : Int) + off = (tgt : Int)) (hp : pc + 3 = pc') (kt : z = true → ks_L l G hh M d tgt lv st S P) (kf : z = false → ks_L l G hh M d pc' lv st S P) : ks_L l G hh M d pc lv (.int (ks_bo z) :: st) S P := kl_if_ne hd ht hp (fun hc => kt (by cases z; exact absurd rfl hc; rfl)) (fun hc => kf ((ks_bo_0 z).mp hc))
theorem kl_icmp_eqZ {z w : Bool} (hd : decode M.2.1 pc = .ok (.if_icmp .eq off, 3)) (ht : (pc : Int) + off = (tgt : Int)) (hp : pc + 3 = pc') (kt : z = w → ks_L l G hh M d tgt lv st S P) (kf : ¬ z = w → ks_L l G hh M d pc' lv st S P) : ks_L l G hh M d pc lv (.int (ks_bo w) :: .int (ks_bo z) :: st) S P := kl_icmp_eq hd ht hp (fun hc => kt ((ks_bo_e z w).mp hc)) (fun hc => kf (fun h => hc ((ks_bo_e z w).mpr h)))
theorem kl_icmp_neZ {z w : Bool} (hd : decode M.2.1 pc = .ok (.if_icmp .ne off, 3)) (ht : (pc : Int) + off = (tgt : Int)) (hp : pc + 3 = pc') (kt : ¬ z = w → ks_L l G hh M d tgt lv st S P) (kf : z = w → ks_L l G hh M d pc' lv st S P) : ks_L l G hh M d pc lv (.int (ks_bo w) :: .int (ks_bo z) :: st) S P := kl_icmp_ne hd ht hp (fun hc => kt (fun h => hc ((ks_bo_e z w).mpr h))) (fun hc => kf ((ks_bo_e z w).mp hc))
theorem kl_lif_eq {x9 y9 : Int64} {pc1 : Nat} (hd0 : decode M.2.1 pc = .ok (.lcmp, 1)) (hp0 : pc + 1 = pc1) (hd : decode M.2.1 pc1 = .ok (.ifCond .eq off, 3)) (ht : (pc1 : Int) + off = (tgt : Int)) (hp : pc1 + 3 = pc') (kt : x9 = y9 → ks_L l G hh M d tgt lv st S P) (kf : ¬ x9 = y9 → ks_L l G hh M d pc' lv st S P) : ks_L l G hh M d pc lv (.long y9 :: .long x9 :: st) S P := kl_lcmp hd0 hp0 (kl_if_eq hd ht hp (fun hc => kt ((lg_cmp_eq x9 y9).mp hc)) (fun hc => kf (fun h => hc ((lg_cmp_eq x9 y9).mpr h))))
theorem kl_lif_eqN {pc1 : Nat} (ha : a < 2 ^ 63) (hb : b < 2 ^ 63) (hd0 : decode M.2.1 pc = .ok (.lcmp, 1)) (hp0 : pc + 1 = pc1) (hd : decode M.2.1 pc1 = .ok (.ifCond .eq off, 3)) (ht : (pc1 : Int) + off = (tgt : Int)) (hp : pc1 + 3 = pc') (kt : a = b → ks_L l G hh M d tgt lv st S P) (kf : ¬ a = b → ks_L l G hh M d pc' lv st S P) : ks_L l G hh M d pc lv (.long (lN b) :: .long (lN a) :: st) S P := kl_lif_eq hd0 hp0 hd ht hp (fun hc => kt ((pk_lEQ ha hb).mp hc)) (fun hc => kf (fun h => hc ((pk_lEQ ha hb).mpr h)))
theorem kl_lif_ne {x9 y9 : Int64} {pc1 : Nat} (hd0 : decode M.2.1 pc = .ok (.lcmp, 1)) (hp0 : pc + 1 = pc1) (hd : decode M.2.1 pc1 = .ok (.ifCond .ne off, 3)) (ht : (pc1 : Int) + off = (tgt : Int)) (hp : pc1 + 3 = pc') (kt : ¬ x9 = y9 → ks_L l G hh M d tgt lv st S P) (kf : x9 = y9 → ks_L l G hh M d pc' lv st S P) : ks_L l G hh M d pc lv (.long y9 :: .long x9 :: st) S P := kl_lcmp hd0 hp0 (kl_if_ne hd ht hp (fun hc => kt (fun h => hc ((lg_cmp_eq x9 y9).mpr h))) (fun hc => kf ((lg_cmp_eq x9 y9).mp hc)))
theorem kl_lif_neN {pc1 : Nat} (ha : a < 2 ^ 63) (hb : b < 2 ^ 63) (hd0 : decode M.2.1 pc = .ok (.lcmp, 1)) (hp0 : pc + 1 = pc1) (hd : decode M.2.1 pc1 = .ok (.ifCond .ne off, 3)) (ht : (pc1 : Int) + off = (tgt : Int)) (hp : pc1 + 3 = pc') (kt : ¬ a = b → ks_L l G hh M d tgt lv st S P) (kf : a = b → ks_L l G hh M d pc' lv st S P) : ks_L l G hh M d pc lv (.long (lN b) :: .long (lN a) :: st) S P := kl_lif_ne hd0 hp0 hd ht hp (fun hc => kt (fun h => hc ((pk_lEQ ha hb).mpr h))) (fun hc => kf ((pk_lEQ ha hb).mp hc))
theorem kl_lif_lt {x9 y9 : Int64} {pc1 : Nat} (hd0 : decode M.2.1 pc = .ok (.lcmp, 1)) (hp0 : pc + 1 = pc1) (hd : decode M.2.1 pc1 = .ok (.ifCond .lt off, 3)) (ht : (pc1 : Int) + off = (tgt : Int)) (hp : pc1 + 3 = pc') (kt : x9 < y9 → ks_L l G hh M d tgt lv st S P) (kf : ¬ x9 < y9 → ks_L l G hh M d pc' lv st S P) : ks_L l G hh M d pc lv (.long y9 :: .long x9 :: st) S P := kl_lcmp hd0 hp0 (kl_if_lt hd ht hp (fun hc => kt ((lg_cmp_lt x9 y9).mp hc)) (fun hc => kf (fun h => hc ((lg_cmp_lt x9 y9).mpr h))))
theorem kl_lif_ltN {pc1 : Nat} (ha : a < 2 ^ 63) (hb : b < 2 ^ 63) (hd0 : decode M.2.1 pc = .ok (.lcmp, 1)) (hp0 : pc + 1 = pc1) (hd : decode M.2.1 pc1 = .ok (.ifCond .lt off, 3)) (ht : (pc1 : Int) + off = (tgt : Int)) (hp : pc1 + 3 = pc') (kt : a < b → ks_L l G hh M d tgt lv st S P) (kf : ¬ a < b → ks_L l G hh M d pc' lv st S P) : ks_L l G hh M d pc lv (.long (lN b) :: .long (lN a) :: st) S P := kl_lif_lt hd0 hp0 hd ht hp (fun hc => kt ((pk_lLT ha hb).mp hc)) (fun hc => kf (fun h => hc ((pk_lLT ha hb).mpr h)))
theorem kl_lif_ge {x9 y9 : Int64} {pc1 : Nat} (hd0 : decode M.2.1 pc = .ok (.lcmp, 1)) (hp0 : pc + 1 = pc1) (hd : decode M.2.1 pc1 = .ok (.ifCond .ge off, 3)) (ht : (pc1 : Int) + off = (tgt : Int)) (hp : pc1 + 3 = pc') (kt : y9 ≤ x9 → ks_L l G hh M d tgt lv st S P) (kf : ¬ y9 ≤ x9 → ks_L l G hh M d pc' lv st S P) : ks_L l G hh M d pc lv (.long y9 :: .long x9 :: st) S P := kl_lcmp hd0 hp0 (kl_if_ge hd ht hp (fun hc => kt ((lg_cmp_ge x9 y9).mp hc)) (fun hc => kf (fun h => hc ((lg_cmp_ge x9 y9).mpr h))))
theorem kl_lif_geN {pc1 : Nat} (ha : a < 2 ^ 63) (hb : b < 2 ^ 63) (hd0 : decode M.2.1 pc = .ok (.lcmp, 1)) (hp0 : pc + 1 = pc1) (hd : decode M.2.1 pc1 = .ok (.ifCond .ge off, 3)) (ht : (pc1 : Int) + off = (tgt : Int)) (hp : pc1 + 3 = pc') (kt : b ≤ a → ks_L l G hh M d tgt lv st S P) (kf : ¬ b ≤ a → ks_L l G hh M d pc' lv st S P) : ks_L l G hh M d pc lv (.long (lN b) :: .long (lN a) :: st) S P := kl_lif_ge hd0 hp0 hd ht hp (fun hc => kt ((pk_lLE hb ha).mp hc)) (fun hc => kf (fun h => hc ((pk_lLE hb ha).mpr h)))
theorem kl_lif_gt {x9 y9 : Int64} {pc1 : Nat} (hd0 : decode M.2.1 pc = .ok (.lcmp, 1)) (hp0 : pc + 1 = pc1) (hd : decode M.2.1 pc1 = .ok (.ifCond .gt off, 3)) (ht : (pc1 : Int) + off = (tgt : Int)) (hp : pc1 + 3 = pc') (kt : y9 < x9 → ks_L l G hh M d tgt lv st S P) (kf : ¬ y9 < x9 → ks_L l G hh M d pc' lv st S P) : ks_L l G hh M d pc lv (.long y9 :: .long x9 :: st) S P := kl_lcmp hd0 hp0 (kl_if_gt hd ht hp (fun hc => kt ((lg_cmp_gt x9 y9).mp hc)) (fun hc => kf (fun h => hc ((lg_cmp_gt x9 y9).mpr h))))
theorem kl_lif_gtN {pc1 : Nat} (ha : a < 2 ^ 63) (hb : b < 2 ^ 63) (hd0 : decode M.2.1 pc = .ok (.lcmp, 1)) (hp0 : pc + 1 = pc1) (hd : decode M.2.1 pc1 = .ok (.ifCond .gt off, 3)) (ht : (pc1 : Int) + off = (tgt : Int)) (hp : pc1 + 3 = pc') (kt : b < a → ks_L l G hh M d tgt lv st S P) (kf : ¬ b < a → ks_L l G hh M d pc' lv st S P) : ks_L l G hh M d pc lv (.long (lN b) :: .long (lN a) :: st) S P := kl_lif_gt hd0 hp0 hd ht hp (fun hc => kt ((pk_lLT hb ha).mp hc)) (fun hc => kf (fun h => hc ((pk_lLT hb ha).mpr h)))
theorem kl_lif_le {x9 y9 : Int64} {pc1 : Nat} (hd0 : decode M.2.1 pc = .ok (.lcmp, 1)) (hp0 : pc + 1 = pc1) (hd : decode M.2.1 pc1 = .ok (.ifCond .le off, 3)) (ht : (pc1 : Int) + off = (tgt : Int)) (hp : pc1 + 3 = pc') (kt : x9 ≤ y9 → ks_L l G hh M d tgt lv st S P) (kf : ¬ x9 ≤ y9 → ks_L l G hh M d pc' lv st S P) : ks_L l G hh M d pc lv (.long y9 :: .long x9 :: st) S P := kl_lcmp hd0 hp0 (kl_if_le hd ht hp (fun hc => kt ((lg_cmp_le x9 y9).mp hc)) (fun hc => kf (fun h => hc ((lg_cmp_le x9 y9).mpr h))))
theorem kl_lif_leN {pc1 : Nat} (ha : a < 2 ^ 63) (hb : b < 2 ^ 63) (hd0 : decode M.2.1 pc = .ok (.lcmp, 1)) (hp0 : pc + 1 = pc1) (hd : decode M.2.1 pc1 = .ok (.ifCond .le off, 3)) (ht : (pc1 : Int) + off = (tgt : Int)) (hp : pc1 + 3 = pc') (kt : a ≤ b → ks_L l G hh M d tgt lv st S P) (kf : ¬ a ≤ b → ks_L l G hh M d pc' lv st S P) : ks_L l G hh M d pc lv (.long (lN b) :: .long (lN a) :: st) S P := kl_lif_le hd0 hp0 hd ht hp (fun hc => kt ((pk_lLE ha hb).mp hc)) (fun hc => kf (fun h => hc ((pk_lLE ha hb).mpr h)))
theorem kl_iastNN {r n i v : Nat} {f : Nat → Nat} (hB : r < ks_B) (hS : S.2.2 r = some (kN n f)) (hi : i < n) (hn : n < 2 ^ 31) (hd : decode M.2.1 pc = .ok (.iastore, 1)) (hp : pc + 1 = pc') (k9 : ks_L l G hh M d pc' lv st (ks_set S r (kN n (va_up f i v))) P) : ks_L l G hh M d pc lv (.int (nI v) :: .int (nI i) :: .ref r :: st) S P := kl_iastN hB hS rfl hi hn hd hp (by rw [kN_up]; exact k9)
theorem kl_lastNN {r n i v : Nat} {f : Nat → Nat} (hS : S.2.2 r = some (kL n f)) (hi : i < n) (hn : n < 2 ^ 31) (hd : decode M.2.1 pc = .ok (.lastore, 1)) (hp : pc + 1 = pc') (k9 : ks_L l G hh M d pc' lv st (ks_set S r (kL n (va_up f i v))) P) : ks_L l G hh M d pc lv (.long (lN v) :: .int (nI i) :: .ref r :: st) S P := kl_lastN hS rfl hi hn hd hp (by rw [kL_up]; exact k9)
theorem kl_zaldN {r n i : Nat} {f : Nat → Bool} (hS : S.2.2 r = some (kZ n f)) (hi : i < n) (hn : n < 2 ^ 31) (hd : decode M.2.1 pc = .ok (.baload, 1)) (hp : pc + 1 = pc') (k9 : ks_L l G hh M d pc' lv (.int (ks_bo (f i)) :: st) S P) : ks_L l G hh M d pc lv (.int (nI i) :: .ref r :: st) S P := kl_zald hS (vp_in_nI hi hn) hd hp (by rw [nI_clamp (by omega)]; exact k9)
theorem kl_zastN {r n i : Nat} {f : Nat → Bool} {v : Bool} (hS : S.2.2 r = some (kZ n f)) (hi : i < n) (hn : n < 2 ^ 31) (hd : decode M.2.1 pc = .ok (.bastore, 1)) (hp : pc + 1 = pc') (k9 : ks_L l G hh M d pc' lv st (ks_set S r (kZ n (va_up f i v))) P) : ks_L l G hh M d pc lv (.int (ks_bo v) :: .int (nI i) :: .ref r :: st) S P := kl_zast hS (vp_in_nI hi hn) (ks_bo_z v) hd hp (by rw [nI_clamp (by omega), kZ_up]; exact k9)
end KsML

theorem kl_loc {l : Launch} {G : ks_G} {hh : KH} {M : ks_M} {d pc : Nat} {lv lv2 : List (Nat × Value)} {st : List Value} {S : ks_S} {P : Option Value → ks_S → Prop} (h : lv = lv2) (k : ks_L l G hh M d pc lv2 st S P) : ks_L l G hh M d pc lv st S P := h ▸ k
theorem kl_minI {l : Launch} {G : ks_G} {hh : KH} {M : ks_M} {d pc pc' : Nat} {lv : List (Nat × Value)} {st : List Value} {S : ks_S} {P : Option Value → ks_S → Prop} {ix : Nat} {x y : Int32} (hlk : Cond.methodLink M.1 ix Lib.Math.min.name ∈ lw_tbl) (hstc : Cond.static Lib.Math.min.name ∈ lw_tbl) (hini : Cond.initialized "java/lang/Math" ∈ lw_tbl) (hcd : Cond.code Lib.Math.min.name Lib.Math.min.code 2 (some .int) ∈ lw_tbl) (hd1 : 1 ≤ d) (hsm : (st.map fun v => v.category).sum ≤ 8) (hd : decode M.2.1 pc = .ok (.invokestatic ix, 3)) (hp : pc + 3 = pc') (k : ks_L l G hh M d pc' lv (.int (if y < x then y else x) :: st) S P) : ks_L l G hh M d pc lv (.int y :: .int x :: st) S P := by
  subst hp
  obtain ⟨v, S', ⟨hm, hV⟩, hP⟩ := k
  refine ⟨v, S', ⟨hm, fun p e R s m args below meth c H locs cells slots ls C hH hS hl h1 h2 => ?_⟩, hP⟩
  exact va_mmin C.1 C.2.1 (C.2.2.2.1.trans hl.1.symm) C.2.2.2.2.1 (C.2.2.2.2.2.1 _ hlk rfl) (C.2.2.2.2.2.1 _ hstc rfl) (C.2.2.2.2.2.1 _ hini rfl) (C.2.2.2.2.2.1 _ hcd rfl) (Nat.le_trans hd1 C.2.2.2.2.2.2.2.2.2.1) (by rw [ks_cat]; have := C.2.2.2.2.2.2.2.2.2.2; omega) (by omega) (by omega) hd (hV p e R s m args below meth c H locs cells slots ls C hH hS hl h1 h2)
section KsNewXL
variable {l : Launch} {G : ks_G} {hh : KH} {M : ks_M} {d pc pc' : Nat} {lv : List (Nat × Value)} {st : List Value} {S : ks_S} {P : Option Value → ks_S → Prop} {N x : Nat}
theorem kl_newBx (hx : S.1 = x) (hw : Cond.arrayClass .byte ∈ lw_tbl) (hN : N < 1000000) (hB : x < ks_B) (hd : decode M.2.1 pc = .ok (.newarray .byte, 2)) (hp : pc + 2 = pc') (k : ∀ S2 : ks_S, ks_gr S S2 x N (kB N (fun _ => 0)) → ks_L l G hh M d pc' lv (.ref x :: st) S2 P) : ks_L l G hh M d pc lv (.int (nI N) :: st) S P := by
  subst hx
  exact kl_newB hw hN hB hd hp (k _ ⟨rfl, rfl, ks_add_new _ _ _, fun a ha => ks_add_ne _ _ _ ha⟩)
theorem kl_newNx (hx : S.1 = x) (hw : Cond.arrayClass .int ∈ lw_tbl) (hN : N < 1000000) (hB : x < ks_B) (hd : decode M.2.1 pc = .ok (.newarray .int, 2)) (hp : pc + 2 = pc') (k : ∀ S2 : ks_S, ks_gr S S2 x N (kN N (fun _ => 0)) → ks_L l G hh M d pc' lv (.ref x :: st) S2 P) : ks_L l G hh M d pc lv (.int (nI N) :: st) S P := by
  subst hx
  exact kl_newI hw hN hB hd hp (k _ ⟨rfl, rfl, ks_add_new _ _ _, fun a ha => ks_add_ne _ _ _ ha⟩)
theorem kl_newLx (hx : S.1 = x) (hw : Cond.arrayClass .long ∈ lw_tbl) (hN : N < 1000000) (hB : x < ks_B) (hd : decode M.2.1 pc = .ok (.newarray .long, 2)) (hp : pc + 2 = pc') (k : ∀ S2 : ks_S, ks_gr S S2 x N (kL N (fun _ => 0)) → ks_L l G hh M d pc' lv (.ref x :: st) S2 P) : ks_L l G hh M d pc lv (.int (nI N) :: st) S P := by
  subst hx
  exact kl_newJ hw hN hB hd hp (k _ ⟨rfl, rfl, ks_add_new _ _ _, fun a ha => ks_add_ne _ _ _ ha⟩)
theorem kl_newZx (hx : S.1 = x) (hw : Cond.arrayClass .boolean ∈ lw_tbl) (hN : N < 1000000) (hB : x < ks_B) (hd : decode M.2.1 pc = .ok (.newarray .boolean, 2)) (hp : pc + 2 = pc') (k : ∀ S2 : ks_S, ks_gr S S2 x N (kZ N (fun _ => false)) → ks_L l G hh M d pc' lv (.ref x :: st) S2 P) : ks_L l G hh M d pc lv (.int (nI N) :: st) S P := by
  subst hx
  exact kl_newZ hw hN hB hd hp (k _ ⟨rfl, rfl, ks_add_new _ _ _, fun a ha => ks_add_ne _ _ _ ha⟩)
theorem kl_newcx {ci ix : Nat} {C : String} {T : u_T} {ty0 : Nat → FieldType} {fs : List Value} (hx : S.1 = x) (hcl : Cond.classLink M.1 ix C ∈ lw_tbl) (hinst : Cond.instantiable C N ∈ lw_tbl) (hini : Cond.initialized C ∈ lw_tbl) (hin : ∀ w ∈ u_ws C T N, w ∈ lw_tbl ∧ goodWord w = true) (hty : ∀ k, k < N → parseFieldDescriptor (T k).2.2.1 = some (ty0 k)) (hc : vwCl[ci]? = some (C, T, N)) (hfs : ∀ j, j < N → defaultValue (ty0 j) = vp_V fs j) (hmap : fs.map (ks_v G) = fs) (hB : x < ks_B) (hd : decode M.2.1 pc = .ok (.new ix, 3)) (hp : pc + 3 = pc') (k : ∀ S2 : ks_S, ks_gr S S2 x N (.inr (ci, fs)) → ks_L l G hh M d pc' lv (.ref x :: st) S2 P) : ks_L l G hh M d pc lv st S P := by
  subst hx
  exact kl_newc hcl hinst hini hin hty hc hfs hmap hB hd hp (k _ ⟨rfl, rfl, ks_add_new _ _ _, fun a ha => ks_add_ne _ _ _ ha⟩)
end KsNewXL
section KsAaL
variable {l : Launch} {G : ks_G} {hh : KH} {M : ks_M} {d pc pc' : Nat} {lv : List (Nat × Value)} {st : List Value} {S : ks_S} {P : Option Value → ks_S → Prop} {a n i : Nat} {ix : Int32}
theorem kl_aaldO {t : Nat} {g : Nat → Option Nat} (ht : t = 4 ∨ t = 5 ∨ t = 6 ∨ t = 7) (hS : S.2.2 a = some (.inl (t, n, .inr (.inr (.inr (.inr g)))))) (hix : ix = nI i) (hi : i < n) (hn : n < 2 ^ 31) (hg : g i = none) (hd : decode M.2.1 pc = .ok (.aaload, 1)) (hp : pc + 1 = pc') (k : ks_L l G hh M d pc' lv (.null :: st) S P) : ks_L l G hh M d pc lv (.int ix :: .ref a :: st) S P := by
  subst hix
  exact kl_aald ht hS (vp_in_nI hi hn) hd hp (by rw [nI_clamp (by omega), hg]; exact k)
theorem kl_aastN {t b ci : Nat} {r : vw_C} {g : Nat → Option Nat} {fs : List Value} (ht : (ks_tys G)[t]? = some (G.2.1 t, .object r.1)) (ht1 : t ≠ 1) (hc : vwCl[ci]? = some r) (hS : S.2.2 a = some (.inl (t, n, .inr (.inr (.inr (.inr g)))))) (hSb : S.2.2 b = some (.inr (ci, fs))) (hix : ix = nI i) (hi : i < n) (hn : n < 2 ^ 31) (hd : decode M.2.1 pc = .ok (.aastore, 1)) (hp : pc + 1 = pc') (k : ks_L l G hh M d pc' lv st (ks_set S a (.inl (t, n, .inr (.inr (.inr (.inr (va_up g i (some b)))))))) P) : ks_L l G hh M d pc lv (.ref b :: .int ix :: .ref a :: st) S P := by
  subst hix
  exact kl_aast ht ht1 hc hS hSb (vp_in_nI hi hn) hd hp (by rw [nI_clamp (by omega)]; exact k)
end KsAaL
theorem kl_anew {l : Launch} {G : ks_G} {hh : KH} {M : ks_M} {d pc pc' : Nat} {lv : List (Nat × Value)} {st : List Value} {S : ks_S} {P : Option Value → ks_S → Prop} {t N ix : Nat} {C : String} {n : Int32} (ht : (ks_tys G)[t]? = some (G.2.1 t, .object C)) (hcl : Cond.classLink M.1 ix C ∈ lw_tbl) (hov : ∀ U : State, ks_K G U → va_AO C U) (hn : ¬ n < 0) (hN : n.toNatClampNeg = N) (hbytes : N * 4 ≤ 536870912) (hB : S.1 < ks_B) (hd : decode M.2.1 pc = .ok (.anewarray ix, 3)) (hp : pc + 3 = pc') (k : ks_L l G hh M d pc' lv (.ref S.1 :: st) (ks_add S N (.inl (t, N, .inr (.inr (.inr (.inr (fun _ => none))))))) P) : ks_L l G hh M d pc lv (.int n :: st) S P := by
  subst hp
  subst hN
  refine kl_make (S1 := ks_add S n.toNatClampNeg (.inl (t, n.toNatClampNeg, .inr (.inr (.inr (.inr (fun _ => none))))))) (kc := 1) (n := n.toNatClampNeg) rfl rfl (fun p e R s m args below meth c H locs cells slots ls Q CC hH hS0 hls hcc hss k => ?_) k
  have hK := CC.2.2.2.2.2.2.2.2.1.1
  refine W.anew CC.1 CC.2.1 CC.2.2.2.2.1 (CC.2.2.2.2.2.1 _ hcl rfl) (va_AO.use (hov s CC.2.2.2.2.2.2.2.2.1)) rfl hd rfl hn hbytes hcc hss fun cA kA comp f1 f2 f3 f4 => ?_
  have hcA : cA = G.2.1 t := by
    obtain ⟨_, _, _, _, _, h4⟩ := (hK.2 t _ ht).2
    exact Option.some.inj (f1.symm.trans h4)
  subst hcA
  generalize hH1 : H.push ({ cls := G.2.1 t, slots := Array.replicate n.toNatClampNeg .null, vm := .none } : Cell) = H1
  have z1 : H1.size = H.size + 1 := by rw [← hH1, Array.size_push]
  have e1 : H1[H.size]? = some (arrV (G.2.1 t) n.toNatClampNeg (fun _ => .null)) := by rw [← hH1, Array.getElem?_push_size, ← arrV_new]
  have o1 : ∀ q : Nat, q < H.size → H1[q]? = H[q]? := fun q hq => by rw [← hH1, Array.getElem?_push, if_neg (Nat.ne_of_lt hq)]
  rw [hH.1] at e1
  have h9 := k H1 (hH.add hB (by rw [z1, hH.1]) (fun q hq => o1 q (by first | exact hq | (rw [hH.1]; exact hq))) (by
    show H1[G.2.2.1 + S.1]? = some (vp_cell (G.2.1 t) (n.toNatClampNeg, .inr (.inr (.inr (.inr (fun _ => none))))))
    rw [vp_cell_q]
    exact e1)) ⟨Nat.le_trans hS0.1 (by rw [z1]; omega), fun q g1 g2 => (o1 q (Nat.lt_of_lt_of_le g1 hS0.1)).trans (hS0.2.1 q g1 g2), hS0.2.2⟩
  have e5 : (List.map (ks_v G) (.ref S.1 :: st)) = (.ref (G.2.2.1 + S.1) :: st.map (ks_v G)) := by
    show (Value.ref (ks_ad G S.1) :: _) = _
    rw [ks_ad_lt hB]
  rw [e5, ← hH.1] at h9
  exact h9
theorem kl_anewx {l : Launch} {G : ks_G} {hh : KH} {M : ks_M} {d pc pc' : Nat} {lv : List (Nat × Value)} {st : List Value} {S : ks_S} {P : Option Value → ks_S → Prop} {t N ix x : Nat} {C : String} (hx : S.1 = x) (ht : (ks_tys G)[t]? = some (G.2.1 t, .object C)) (hcl : Cond.classLink M.1 ix C ∈ lw_tbl) (hov : ∀ U : State, ks_K G U → va_AO C U) (hN : N < 1000000) (hB : x < ks_B) (hd : decode M.2.1 pc = .ok (.anewarray ix, 3)) (hp : pc + 3 = pc') (k : ∀ S2 : ks_S, ks_gr S S2 x N (.inl (t, N, .inr (.inr (.inr (.inr (fun _ => none)))))) → ks_L l G hh M d pc' lv (.ref x :: st) S2 P) : ks_L l G hh M d pc lv (.int (nI N) :: st) S P := by
  subst hx
  exact kl_anew ht hcl hov (nI_pos (by omega)) (nI_clamp (by omega)) (by omega) hB hd hp (k _ ⟨rfl, rfl, ks_add_new _ _ _, fun a ha => ks_add_ne _ _ _ ha⟩)
