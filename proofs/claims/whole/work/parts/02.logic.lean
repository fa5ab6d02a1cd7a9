/-! THE LOGIC: a judgement ks_X over an abstract heap with small names (0, 1, 2 .. in the order of making; static rows from ks_B on), over the kit's W and Met. -/
def ks_B : Nat := 1099511627776
/-- the machine's numbers: class ids and slots, the array classes by their code, the first address, the static rows' addresses -/
abbrev ks_G : Type := va_G × (Nat → ClassId) × Nat × (Nat → Nat)
/-- a cell: a row of a kind with its contents, or an object of vwCl's class with its fields -/
abbrev ks_E : Type := (Nat × vp_A) ⊕ (Nat × List Value)
/-- a state: how many cells were made, of how many slots, what the names hold -/
abbrev ks_S : Type := Nat × Nat × (Nat → Option ks_E)
/-- a method: class, code, locals, return type, name -/
abbrev ks_M : Type := String × ByteArray × Nat × Option FieldType × String
def ks_ad (G : ks_G) (a : Nat) : Nat := if a < ks_B then G.2.2.1 + a else G.2.2.2 (a - ks_B)
def ks_v (G : ks_G) (v : Value) : Value := match v with
  | .ref a => .ref (ks_ad G a)
  | .int x => .int x
  | .long x => .long x
  | .float x => .float x
  | .double x => .double x
  | .null => .null
  | .retAddr x => .retAddr x
theorem ks_v_cat (G : ks_G) (v : Value) : (ks_v G v).category = v.category := by cases v <;> rfl
def ks_q (G : ks_G) (q : Nat × Value) : Nat × Value := (q.1, ks_v G q.2)
def ks_a (G : ks_G) (A : vp_A) : vp_A := match A with
  | (n, .inr (.inr (.inr (.inr g)))) => (n, .inr (.inr (.inr (.inr (fun i => (g i).map (ks_ad G))))))
  | (n, .inl f) => (n, .inl f)
  | (n, .inr (.inl f)) => (n, .inr (.inl f))
  | (n, .inr (.inr (.inl f))) => (n, .inr (.inr (.inl f)))
  | (n, .inr (.inr (.inr (.inl f)))) => (n, .inr (.inr (.inr (.inl f))))
def ks_e (G : ks_G) (e : ks_E) : va_E := match e with
  | .inl (t, A) => .inl (G.2.1 t, ks_a G A)
  | .inr (c, fs) => .inr (c, fs.map (ks_v G))
/-- the kinds of rows -/
def ks_tys (G : ks_G) : List (ClassId × FieldType) := [(G.2.1 0, .byte), (G.2.1 1, .int), (G.2.1 2, .long), (G.2.1 3, .boolean), (G.2.1 4, .array .byte), (G.2.1 5, .object "CoinJudge$Block"), (G.2.1 6, .object "CoinJudge$DraftTx"), (G.2.1 7, .object "CoinJudgeModel$Block")]
def ks_A (G : ks_G) : Nat → Prop := fun q => G.2.2.1 ≤ q
/-- the words of nest mates: they stay, but are no 'good' words of the kit -/
def ks_nest (w : Cond) : Bool := match w with
  | .fieldLinkNest _ _ _ _ _ _ => true
  | .methodLinkNest _ _ _ _ => true
  | .arrayOver (.array _) => true
  | _ => false
/-- the class of rows of rows stays -/
theorem ks_ovA {t : FieldType} {u U : State} (hvm : u.vm.Alike U.vm) (h : va_Nw (.arrayOver (.array t)) u) : va_Nw (.arrayOver (.array t)) U := by
  unfold va_Nw Cond.before Cond.holds at h
  simp only [Cond.value, beq_iff_eq] at h
  obtain ⟨comp, h1, h'⟩ := Option.bind_eq_some_iff.mp h
  obtain ⟨c, h2, h''⟩ := Option.bind_eq_some_iff.mp h'
  obtain ⟨k, h3, h4⟩ := Option.map_eq_some_iff.mp h''
  obtain ⟨k', hk', he⟩ := hvm.2.2 _ _ h3
  have f1 : U.vm.findClass (FieldType.array t).toString = some comp := by rw [hvm.findClass]; exact h1
  have hi : (U.vm.classes.findIdx? fun (x : Class) => match x.kind with | .array component _ => component == comp | _ => false) = some c := by
    first
    | exact (hvm.findIdx?_eq _ (fun _ => rfl)).trans h2
    | exact ((va_idx_bare U.vm comp).symm.trans ((congrArg (fun v : Vm => v.classes.findIdx? fun (x : Class) => match x.kind with | .array component _ => component == comp | _ => false) hvm.bare_eq).trans (va_idx_bare u.vm comp))).trans h2
    | exact ((va_idx_bare U.vm comp).symm.trans ((congrArg (fun v : Vm => v.classes.findIdx? fun (x : Class) => match x.kind with | .array component _ => component == comp | _ => false) hvm.bare_eq.symm).trans (va_idx_bare u.vm comp))).trans h2
  have hkd : k'.kind = k.kind := by rw [he]
  unfold va_Nw Cond.before Cond.holds
  simp only [Cond.value]
  rw [f1, Option.bind_some]
  refine (congrArg (fun o : Option Nat => (o.bind (fun c => (U.vm.classes[c]?).map fun (k : Class) => match k.kind with | .array _ ty => decide (ty = FieldType.array t) && decide (U.vm.findClass ("[" ++ (FieldType.array t).toString) = some c) | _ => false) == some true)) hi).trans ?_
  simp only [Option.bind_some, hk', Option.map_some, hkd, hvm.findClass]
  exact beq_iff_eq.mpr (congrArg some h4)
def ks_K (G : ks_G) (U : State) : Prop := va_K G.1 vwCl (ks_tys G) U ∧ (∀ w ∈ lw_tbl, ks_nest w = true → va_Nw w U) ∧ va_AO "CoinJudge$Block" U ∧ va_AO "CoinJudge$DraftTx" U ∧ va_AO "CoinJudgeModel$Block" U
theorem ks_K.warm {G : ks_G} {s U : State} (hW : s.WarmedH U.vm) (h : ks_K G s) : ks_K G U := by
  refine ⟨h.1.moved hW.alike, fun w hw hn => ?_, h.2.2.1.moved hW.alike, h.2.2.2.1.moved hW.alike, h.2.2.2.2.moved hW.alike⟩
  have h1 := h.2.1 w hw hn
  cases w <;> first | exact va_Nw.warmF hW h1 | exact va_Nw.warmM hW h1 | (rename_i ty; cases ty <;> first | exact ks_ovA hW.alike h1 | cases hn) | cases hn
def ks_row (L : List Int32) : Nat → Int32 := fun j => L.getD j 0
def ks_Z (G : ks_G) (U : State) (H : Heap) : Prop := ∀ (i : Nat) (q : String × String × List Int32), ks_stat[i]? = some q → va_Z q.1 q.2.1 "[I" (.ref (G.2.2.2 i)) (ks_A G) U H ∧ va_T .int (G.2.2.2 i) q.2.2.length (fun j => .int (ks_row q.2.2 j)) (ks_A G) U H
def ks_At (G : ks_G) (a : Nat) (e : ks_E) (n : Nat) (H : Heap) : Prop :=
  (a < n ∧ va_at G.1 vwCl (G.2.2.1 + a, ks_e G e) H) ∨ ∃ (i : Nat) (q : String × String × List Int32), a = ks_B + i ∧ ks_stat[i]? = some q ∧ e = .inl (1, q.2.2.length, .inl (ks_row q.2.2))
def ks_H (G : ks_G) (S : ks_S) (U : State) (H : Heap) : Prop :=
  H.size = G.2.2.1 + S.1 ∧ S.1 ≤ ks_B ∧ (∀ (a : Nat) (e : ks_E), S.2.2 a = some e → ks_At G a e S.1 H) ∧ ks_Z G U H
theorem ks_Z.moved {G : ks_G} {u U : State} {H : Heap} (hvm : u.vm.Alike U.vm) (h : ks_Z G u H) : ks_Z G U H := fun i q hq => ⟨va_Z.moved hvm (h i q hq).1, va_T.moved hvm (h i q hq).2⟩
theorem ks_Z.kept {G : ks_G} {U : State} {H H1 : Heap} (h : ks_Z G U H) (hq : ∀ q : Nat, q < H.size → ¬ ks_A G q → H1[q]? = H[q]?) : ks_Z G U H1 := fun i q hi => ⟨va_Z.kept (h i q hi).1 hq, va_T.kept (h i q hi).2 hq⟩
theorem ks_H.moved {G : ks_G} {S : ks_S} {u U : State} {H : Heap} (hvm : u.vm.Alike U.vm) (h : ks_H G S u H) : ks_H G S U H := ⟨h.1, h.2.1, h.2.2.1, h.2.2.2.moved hvm⟩
def ks_C (G : ks_G) (M : ks_M) (d : Nat) (p : Program) (R : Room) (s : State) (m : MethodId) (args : Array Value) (meth : Method) (c : Code) : Prop :=
  p.tables.exec = Jvm.exec ∧ c.code = M.2.1 ∧ meth.sig.returnType = M.2.2.2.1 ∧ c.maxLocals = M.2.2.1 ∧ s.vm.findClass M.1 = some m.cls ∧ (∀ w ∈ lw_tbl, goodWord w = true → w.before args s = true) ∧ meth.locks = false ∧ meth.name = M.2.2.2.2 ∧ ks_K G s ∧ d ≤ R.frames ∧ 200 * d ≤ R.locals
def ks_Q (G : ks_G) (v : Option Value) (S' : ks_S) : Array Value → State → Outcome → State → Prop := fun _ st o t =>
  o = .returned (v.map (ks_v G)) ∧ ks_H G S' t t.heap ∧ ks_K G t ∧ va_F (ks_A G) st t
/-- from here the method returns v, and S' is the state then -/
def ks_V (l : Launch) (G : ks_G) (M : ks_M) (d pc : Nat) (lv : List (Nat × Value)) (st : List Value) (S : ks_S) (v : Option Value) (S' : ks_S) : Prop :=
  (S.1 ≤ S'.1 ∧ S.2.1 ≤ S'.2.1) ∧
  ∀ (p : Program) (e : Env) (R : Room) (s : State) (m : MethodId) (args : Array Value) (below : List Frame) (meth : Method) (c : Code) (H : Heap) (locs : List Loc) (cells slots : Nat) (ls : Array Slot),
    ks_C G M d p R s m args meth c → ks_H G S s H → va_S (ks_A G) s.heap H locs → lv_has ls M.2.2.1 (lv.map (ks_q G)) →
    cells + (S'.1 - S.1) = R.cells → slots + (S'.2.1 - S.2.1) = R.slots →
    W p l e R s m args below meth c H locs cells slots (MQ below (ks_Q G v S') args s R.cells R.slots (ks_A G)) (F0 m pc ls (st.map (ks_v G)))
def ks_X (l : Launch) (G : ks_G) (M : ks_M) (d pc : Nat) (lv : List (Nat × Value)) (st : List Value) (S : ks_S) (P : Option Value → ks_S → Prop) : Prop :=
  ∃ (v : Option Value) (S' : ks_S), ks_V l G M d pc lv st S v S' ∧ P v S'
def ks_ws (y : MethodName) (M : ks_M) : List Cond := Cond.code y M.2.1 M.2.2.1 M.2.2.2.1 :: lw_tbl.filter goodWord
def ks_rm (d : Nat) (S S' : ks_S) : Room := { frames := d, cells := S'.1 - S.1, slots := S'.2.1 - S.2.1, locals := 200 * d }
/-- a method's contract: called so, it returns v, and S' is the state then -/
def ks_T (l : Launch) (G : ks_G) (y : MethodName) (M : ks_M) (d : Nat) (As : List Value) (S : ks_S) (v : Option Value) (S' : ks_S) : Prop :=
  (S.1 ≤ S'.1 ∧ S.2.1 ≤ S'.2.1) ∧
  Met l y (ks_ws y M) (ks_rm d S S') (va_Pc (As.map (ks_v G)) (fun U => ks_H G S U U.heap ∧ ks_K G U)) (ks_Q G v S') (S'.1 - S.1) (S'.2.1 - S.2.1) (ks_A G)
def ks_P (l : Launch) (G : ks_G) (y : MethodName) (M : ks_M) (d : Nat) (As : List Value) (S : ks_S) (P : Option Value → ks_S → Prop) : Prop :=
  ∃ (v : Option Value) (S' : ks_S), ks_T l G y M d As S v S' ∧ P v S'
theorem ks_P.mono {l : Launch} {G : ks_G} {y : MethodName} {M : ks_M} {d : Nat} {As : List Value} {S : ks_S} {P P' : Option Value → ks_S → Prop} (h : ks_P l G y M d As S P) (hp : ∀ v S', P v S' → P' v S') : ks_P l G y M d As S P' := by
  obtain ⟨v, S', a, b⟩ := h
  exact ⟨v, S', a, hp v S' b⟩
theorem ks_X.mono {l : Launch} {G : ks_G} {M : ks_M} {d pc : Nat} {lv : List (Nat × Value)} {st : List Value} {S : ks_S} {P P' : Option Value → ks_S → Prop} (h : ks_X l G M d pc lv st S P) (hp : ∀ v S', P v S' → P' v S') : ks_X l G M d pc lv st S P' := by
  obtain ⟨v, S', a, b⟩ := h
  exact ⟨v, S', a, hp v S' b⟩
-- locals
def ks_get (lv : List (Nat × Value)) (i : Nat) : Option Value := match lv with
  | [] => none
  | q :: r => if q.1 = i then some q.2 else ks_get r i
theorem ks_get_mem {lv : List (Nat × Value)} {i : Nat} {v : Value} (h : ks_get lv i = some v) : (i, v) ∈ lv := by
  induction lv with
  | nil => cases h
  | cons q r ih =>
    unfold ks_get at h
    by_cases hq : q.1 = i
    · rw [if_pos hq] at h
      cases h
      subst hq
      exact List.mem_cons_self
    · rw [if_neg hq] at h
      exact List.mem_cons_of_mem _ (ih h)
theorem ks_has {G : ks_G} {ls : Array Slot} {n : Nat} {lv : List (Nat × Value)} {i : Nat} {v : Value} (h : lv_has ls n (lv.map (ks_q G))) (hg : ks_get lv i = some v) : ls[i]? = some (.val (ks_v G v)) :=
  h.2.2 (i, ks_v G v) (List.mem_map.mpr ⟨(i, v), ks_get_mem hg, rfl⟩)
def ks_put1 (lv : List (Nat × Value)) (i : Nat) (v : Value) : List (Nat × Value) := (i, v) :: lv.filter (fun q => !(q.1 == i) && !(q.1 + 1 == i && q.2.category == 2))
def ks_put2 (lv : List (Nat × Value)) (i : Nat) (v : Value) : List (Nat × Value) := (i, v) :: lv.filter (fun q => !(q.1 == i) && (!(q.1 == i + 1) && !(q.1 + 1 == i && q.2.category == 2)))
theorem ks_put1_map (G : ks_G) (lv : List (Nat × Value)) (i : Nat) (v : Value) : (i, ks_v G v) :: (lv.map (ks_q G)).filter (fun q => !(q.1 == i) && !(q.1 + 1 == i && q.2.category == 2)) = (ks_put1 lv i v).map (ks_q G) := by
  unfold ks_put1
  rw [List.map_cons, List.filter_map]
  congr 2
  apply List.filter_congr
  intro q _
  simp only [Function.comp, ks_q, ks_v_cat]
theorem ks_put2_map (G : ks_G) (lv : List (Nat × Value)) (i : Nat) (v : Value) : (i, ks_v G v) :: (lv.map (ks_q G)).filter (fun q => !(q.1 == i) && (!(q.1 == i + 1) && !(q.1 + 1 == i && q.2.category == 2))) = (ks_put2 lv i v).map (ks_q G) := by
  unfold ks_put2
  rw [List.map_cons, List.filter_map]
  congr 2
  apply List.filter_congr
  intro q _
  simp only [Function.comp, ks_q, ks_v_cat]
-- lifting the kit's rows
section KsL
variable {l : Launch} {G : ks_G} {M : ks_M} {d pc pc' : Nat} {lv lv' : List (Nat × Value)} {st st' : List Value} {S : ks_S} {P : Option Value → ks_S → Prop}
/-- an instruction that touches neither heap nor locals -/
theorem ks_pure (h : ∀ (p : Program) (e : Env) (R : Room) (s : State) (m : MethodId) (args : Array Value) (below : List Frame) (meth : Method) (c : Code) (H : Heap) (locs : List Loc) (cells slots : Nat) (ls : Array Slot) (Q : State → Prop),
      ks_C G M d p R s m args meth c → lv_has ls M.2.2.1 (lv.map (ks_q G)) → W p l e R s m args below meth c H locs cells slots Q (F0 m pc' ls (st'.map (ks_v G))) → W p l e R s m args below meth c H locs cells slots Q (F0 m pc ls (st.map (ks_v G))))
    (k : ks_X l G M d pc' lv st' S P) : ks_X l G M d pc lv st S P := by
  obtain ⟨v, S', ⟨hm, hV⟩, hP⟩ := k
  exact ⟨v, S', ⟨hm, fun p e R s m args below meth c H locs cells slots ls C hH hS hl h1 h2 => h p e R s m args below meth c H locs cells slots ls _ C hl (hV p e R s m args below meth c H locs cells slots ls C hH hS hl h1 h2)⟩, hP⟩
/-- an instruction that writes a local -/
theorem ks_local (h : ∀ (p : Program) (e : Env) (R : Room) (s : State) (m : MethodId) (args : Array Value) (below : List Frame) (meth : Method) (c : Code) (H : Heap) (locs : List Loc) (cells slots : Nat) (ls : Array Slot) (Q : State → Prop),
      ks_C G M d p R s m args meth c → lv_has ls M.2.2.1 (lv.map (ks_q G)) → (∀ ls' : Array Slot, lv_has ls' M.2.2.1 (lv'.map (ks_q G)) → W p l e R s m args below meth c H locs cells slots Q (F0 m pc' ls' (st'.map (ks_v G)))) → W p l e R s m args below meth c H locs cells slots Q (F0 m pc ls (st.map (ks_v G))))
    (k : ks_X l G M d pc' lv' st' S P) : ks_X l G M d pc lv st S P := by
  obtain ⟨v, S', ⟨hm, hV⟩, hP⟩ := k
  exact ⟨v, S', ⟨hm, fun p e R s m args below meth c H locs cells slots ls C hH hS hl h1 h2 => h p e R s m args below meth c H locs cells slots ls _ C hl (fun ls' hl' => hV p e R s m args below meth c H locs cells slots ls' C hH hS hl' h1 h2)⟩, hP⟩
/-- fewer locals -/
theorem ks_sub (lv' : List (Nat × Value)) (h : lv'.map (fun q => ks_get lv q.1) = lv'.map (fun q => some q.2)) (k : ks_X l G M d pc lv' st S P) : ks_X l G M d pc lv st S P := by
  obtain ⟨v, S', ⟨hm, hV⟩, hP⟩ := k
  refine ⟨v, S', ⟨hm, fun p e R s m args below meth c H locs cells slots ls C hH hS hl h1 h2 => hV p e R s m args below meth c H locs cells slots ls C hH hS ⟨hl.1, hl.2.1, fun q hq => ?_⟩ h1 h2⟩, hP⟩
  obtain ⟨z, hz, rfl⟩ := List.mem_map.mp hq
  obtain ⟨i, hi⟩ := List.getElem?_of_mem hz
  have h3 : (lv'.map (fun q => ks_get lv q.1))[i]? = (lv'.map (fun q => some q.2))[i]? := by rw [h]
  rw [List.getElem?_map, List.getElem?_map, hi] at h3
  exact ks_has hl (Option.some.inj h3)
end KsL
