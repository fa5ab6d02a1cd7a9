/-! THE ENTRY: the machine's numbers at the law's beginning -/
set_option maxRecDepth 100000 in
theorem en_ins : ∀ q ∈ vwCl.map (fun q => (q.1, q.2.2)), Cond.instantiable q.1 q.2 ∈ lw_tbl := by decide +kernel
set_option maxRecDepth 100000 in
theorem en_J0 : ∀ w ∈ u_ws RJ0 TJ0 4, w ∈ lw_tbl := by decide +kernel
set_option maxRecDepth 100000 in
theorem en_J4 : ∀ w ∈ u_ws RJ4 TJ4 4, w ∈ lw_tbl := by decide +kernel
set_option maxRecDepth 100000 in
theorem en_Jx : ∀ w ∈ u_ws RJx00060 TJx00060 6, w ∈ lw_tbl := by decide +kernel
theorem en_uws : ∀ q ∈ vwCl, ∀ w ∈ u_ws q.1 q.2.1 q.2.2, w ∈ lw_tbl := by
  intro q hq
  rcases List.mem_cons.mp hq with rfl | hq
  · exact en_J0
  rcases List.mem_cons.mp hq with rfl | hq
  · exact en_J4
  rcases List.mem_cons.mp hq with rfl | hq
  · exact en_Jx
  rcases List.mem_cons.mp hq with rfl | hq
  · exact fun w hw => (in_X0 w hw).1
  rcases List.mem_cons.mp hq with rfl | hq
  · exact fun w hw => (in_X1 w hw).1
  rcases List.mem_cons.mp hq with rfl | hq
  · exact fun w hw => (in_X2 w hw).1
  rcases List.mem_cons.mp hq with rfl | hq
  · exact fun w hw => (in_X3 w hw).1
  rcases List.mem_cons.mp hq with rfl | hq
  · exact fun w hw => (in_X4 w hw).1
  rcases List.mem_cons.mp hq with rfl | hq
  · exact fun w hw => (in_X5 w hw).1
  rcases List.mem_cons.mp hq with rfl | hq
  · exact fun w hw => (in_X6 w hw).1
  rcases List.mem_cons.mp hq with rfl | hq
  · exact fun w hw => (in_X7 w hw).1
  rcases List.mem_cons.mp hq with rfl | hq
  · exact fun w hw => (in_X8 w hw).1
  rcases List.mem_cons.mp hq with rfl | hq
  · exact fun w hw => (in_X9 w hw).1
  rcases List.mem_cons.mp hq with rfl | hq
  · exact fun w hw => (in_X10 w hw).1
  rcases List.mem_cons.mp hq with rfl | hq
  · exact fun w hw => (in_X11 w hw).1
  rcases List.mem_cons.mp hq with rfl | hq
  · exact fun w hw => (in_X12 w hw).1
  rcases List.mem_cons.mp hq with rfl | hq
  · exact fun w hw => (in_X13 w hw).1
  rcases List.mem_cons.mp hq with rfl | hq
  · exact fun w hw => (in_X14 w hw).1
  rcases List.mem_cons.mp hq with rfl | hq
  · exact fun w hw => (in_X15 w hw).1
  rcases List.mem_cons.mp hq with rfl | hq
  · exact fun w hw => (in_X16 w hw).1
  cases hq
theorem en_K {s : State} {args : Array Value} (hts : ∀ w ∈ lw_tbl, w.before args s = true) : ∃ G0 : va_G, ∀ (k : Nat) (q : vw_C), vwCl[k]? = some q → u_Kn s q.1 q.2.1 q.2.2 (G0.1 k) (G0.2 k) := by
  have h : ∀ k : Nat, ∃ r : ClassId × (Nat → Nat), ∀ q : vw_C, vwCl[k]? = some q → u_Kn s q.1 q.2.1 q.2.2 r.1 r.2 := fun k => by
    cases e : vwCl[k]? with
    | none => exact ⟨((0 : Nat), fun _ => 0), fun q hq => by cases hq⟩
    | some q =>
      have hm : q ∈ vwCl := List.mem_of_getElem? e
      obtain ⟨cC, iS, hk⟩ := u_known hts (en_uws q hm) (hts _ (en_ins (q.1, q.2.2) (List.mem_map.mpr ⟨q, hm, rfl⟩)))
      exact ⟨(cC, iS), fun q2 h2 => by cases h2; exact hk⟩
  exact ⟨(fun k => (Classical.choose (h k)).1, fun k => (Classical.choose (h k)).2), fun k q hq => Classical.choose_spec (h k) q hq⟩
theorem en_arrC {s : State} {args : Array Value} {ty : FieldType} (h : (Cond.arrayClass ty).before args s = true) (hty : ∀ C, ty ≠ .object C) : ∃ c, ArrOfT s c ty ∧ va_RA s c ty := by
  obtain ⟨c, k, comp, h1, h2, h3⟩ := Cond.arrayClass_spec h
  refine ⟨c, fun N z => ⟨fun k h => (by cases h), k, h2, comp, h3⟩, ?_⟩
  cases ty with
  | object C => exact absurd rfl (hty C)
  | _ => exact h1
theorem en_arrA {s : State} {args : Array Value} {t : FieldType} (h : (Cond.arrayOver (.array t)).before args s = true) : ∃ c, ArrOfT s c (.array t) ∧ va_RA s c (.array t) := by
  obtain ⟨comp, c, k, h1, h2, h3, h4⟩ := Cond.arrayOver_specA h
  exact ⟨c, fun N z => ⟨fun k h => (by cases h), k, h2, comp, h3⟩, h4⟩
theorem en_arrO {s : State} {args : Array Value} {C : String} (h : (Cond.arrayOver (.object C)).before args s = true) : ∃ c, ArrOfT s c (.object C) ∧ va_RA s c (.object C) := by
  obtain ⟨comp, c, k, h1, -, h2, h3, h4⟩ := Cond.arrayOver_spec h
  exact ⟨c, fun N z => ⟨fun k h => (by cases h), k, h2, comp, h3⟩, k, comp, h2, h3, h1, h4⟩
set_option maxRecDepth 100000 in
theorem en_aw : Cond.arrayClass .byte ∈ lw_tbl ∧ Cond.arrayClass .int ∈ lw_tbl ∧ Cond.arrayClass .long ∈ lw_tbl ∧ Cond.arrayClass .boolean ∈ lw_tbl ∧ Cond.arrayOver (.array .byte) ∈ lw_tbl ∧ Cond.arrayOver (.object "CoinJudge$Block") ∈ lw_tbl ∧ Cond.arrayOver (.object "CoinJudge$DraftTx") ∈ lw_tbl ∧ Cond.arrayOver (.object "CoinJudgeModel$Block") ∈ lw_tbl := by decide +kernel
theorem en_T {s : State} {args : Array Value} (hts : ∀ w ∈ lw_tbl, w.before args s = true) : ∃ ac : Nat → ClassId, ∀ (k : Nat) (q : ClassId × FieldType), ([(ac 0, .byte), (ac 1, .int), (ac 2, .long), (ac 3, .boolean), (ac 4, .array .byte), (ac 5, .object "CoinJudge$Block"), (ac 6, .object "CoinJudge$DraftTx"), (ac 7, .object "CoinJudgeModel$Block")] : List (ClassId × FieldType))[k]? = some q → ArrOfT s q.1 q.2 ∧ va_RA s q.1 q.2 := by
  obtain ⟨a0, a1, a2, a3, a4, a5, a6, a7⟩ := en_aw
  obtain ⟨c0, h0⟩ := en_arrC (hts _ a0) (fun C e => by cases e)
  obtain ⟨c1, h1⟩ := en_arrC (hts _ a1) (fun C e => by cases e)
  obtain ⟨c2, h2⟩ := en_arrC (hts _ a2) (fun C e => by cases e)
  obtain ⟨c3, h3⟩ := en_arrC (hts _ a3) (fun C e => by cases e)
  obtain ⟨c4, h4⟩ := en_arrA (hts _ a4)
  obtain ⟨c5, h5⟩ := en_arrO (hts _ a5)
  obtain ⟨c6, h6⟩ := en_arrO (hts _ a6)
  obtain ⟨c7, h7⟩ := en_arrO (hts _ a7)
  refine ⟨fun k => if k = 0 then c0 else if k = 1 then c1 else if k = 2 then c2 else if k = 3 then c3 else if k = 4 then c4 else if k = 5 then c5 else if k = 6 then c6 else c7, fun k q hq => ?_⟩
  match k, hq with
  | 0, hq => cases hq; exact h0
  | 1, hq => cases hq; exact h1
  | 2, hq => cases hq; exact h2
  | 3, hq => cases hq; exact h3
  | 4, hq => cases hq; exact h4
  | 5, hq => cases hq; exact h5
  | 6, hq => cases hq; exact h6
  | 7, hq => cases hq; exact h7
  | k + 8, hq => cases hq
/-- the static rows -/
theorem en_eq {args : Array Value} {s : State} {t : Term} {z : Int32} (h : (Cond.eq t (.int z)).before args s = true) : t.eval args s none [] s = some (.int z) := by
  cases hv : t.eval args s none [] s with
  | none => simp [Cond.before, Cond.holds, Cond.value, hv] at h
  | some w =>
    have hz : (Term.int z).eval args s none [] s = some (.int z) := rfl
    simp only [Cond.before, Cond.holds, Cond.value, hv, hz] at h
    cases w <;> simp_all
def enL (q : String × String × List Int32) : List Cond := Cond.arrayOf (.static q.1 q.2.1 "[I") .int :: Cond.eq (.length (.static q.1 q.2.1 "[I")) (.int (Int32.ofNat q.2.2.length)) :: (List.range q.2.2.length).map (fun j => Cond.eq (.elem (.static q.1 q.2.1 "[I") (.int (Int32.ofNat j))) (.int (q.2.2.getD j 0)))
def stIx : List Nat := [4, 15, 239, 250, 686, 261, 272, 339, 510, 347, 523, 697]
abbrev enF : List Cond := flatC (Jvm.Cond.and given_1 narrow_1)
set_option maxRecDepth 100000 in
theorem en_F : ∀ i, i < 12 → (enF.drop (stIx.getD i 0 + 1)).take ((ks_stat.getD i ("", "", [])).2.2.length + 2) = enL (ks_stat.getD i ("", "", [])) := by decide +kernel
set_option maxRecDepth 100000 in
theorem en_ls : ∀ q ∈ ks_stat, Cond.laysStatic q.1 q.2.1 "[I" ∈ lw_tbl ∧ Cond.initialized q.1 ∈ lw_tbl := by decide +kernel
theorem en_len : ∀ q ∈ ks_stat, q.2.2.length < 2 ^ 31 := by decide +kernel
theorem en_st {args : Array Value} {s : State} (hts : ∀ w ∈ lw_tbl, w.before args s = true) (hgv : (Jvm.Cond.and given_1 narrow_1).before args s = true) (i : Nat) (q : String × String × List Int32) (hq : ks_stat[i]? = some q) : ∃ t : Nat, va_Z q.1 q.2.1 "[I" (.ref t) (fun a => s.heap.size ≤ a) s s.heap ∧ va_T .int t q.2.2.length (fun j => .int (ks_row q.2.2 j)) (fun a => s.heap.size ≤ a) s s.heap := by
  have hm : q ∈ ks_stat := List.mem_of_getElem? hq
  have hi : i < 12 := (List.getElem?_eq_some_iff.mp hq).1
  have eq9 : ks_stat.getD i ("", "", []) = q := by rw [List.getD_eq_getElem?_getD, hq]; rfl
  have f := en_F i hi
  rw [eq9] at f
  have hs := flat_of_before _ hgv
  have hb : ∀ c ∈ enL q, c.before args s = true := fun c hc => hs c (List.mem_of_mem_drop (List.mem_of_mem_take (by rw [f]; exact hc)))
  have hA : ∀ a : Nat, a < s.heap.size → ¬ s.heap.size ≤ a := fun a h => Nat.not_le.mpr h
  obtain ⟨t, ht, hT⟩ := va_Tof (f := fun j => .int (ks_row q.2.2 j)) (A := fun a => s.heap.size ≤ a) (en_len q hm) (hb _ List.mem_cons_self) (en_eq (hb _ (List.mem_cons_of_mem _ List.mem_cons_self))) (fun j hj => en_eq (hb _ (List.mem_cons_of_mem _ (List.mem_cons_of_mem _ (List.mem_map.mpr ⟨j, List.mem_range.mpr hj, rfl⟩))))) hA
  exact ⟨t, va_Zof (hts _ (en_ls q hm).1) (hts _ (en_ls q hm).2) ht hA, hT⟩
theorem nest_nw {w : Cond} {args : Array Value} {s : State} (hn : ks_nest w = true) (h : w.before args s = true) : va_Nw w s := by
  cases w <;> first | exact va_Nw.of rfl h | exact h | cases hn
set_option maxRecDepth 100000 in
theorem en_tw : Cond.laysStatic "java/lang/Throwable" "UNASSIGNED_STACK" "[Ljava/lang/StackTraceElement;" ∈ lw_tbl ∧ Cond.laysStatic "java/lang/Throwable" "SUPPRESSED_SENTINEL" "Ljava/util/List;" ∈ lw_tbl ∧ Cond.initialized "java/lang/Throwable" ∈ lw_tbl := by decide +kernel
set_option maxRecDepth 100000 in
theorem en_fx : enF[26]? = some (Cond.isRef (.static "java/lang/Throwable" "UNASSIGNED_STACK" "[Ljava/lang/StackTraceElement;")) ∧ enF[27]? = some (Cond.isRef (.static "java/lang/Throwable" "SUPPRESSED_SENTINEL" "Ljava/util/List;")) ∧ enF[761]? = some (Cond.not (.castable "java/lang/IndexOutOfBoundsException" "java/lang/IllegalArgumentException")) ∧ enF[785]? = some (Cond.not (.castable "java/lang/IndexOutOfBoundsException" "java/lang/IllegalStateException")) ∧ enF[762]? = some (Cond.not (.castable "java/lang/IllegalStateException" "java/lang/IllegalArgumentException")) ∧ enF[808]? = some (Cond.not (.castable "java/lang/IndexOutOfBoundsException" "java/lang/UnsupportedOperationException")) := by decide +kernel
