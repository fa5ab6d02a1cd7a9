/-! ROWS OF THE HEAP: rows written, cells made, returns -/
section KsH3
variable {l : Launch} {G : ks_G} {M : ks_M} {d pc pc' : Nat} {lv : List (Nat × Value)} {st st' : List Value} {S S1 : ks_S} {P : Option Value → ks_S → Prop}
theorem ks_iast {a n : Nat} {f : Nat → Int32} {i x : Int32} (hb : a < ks_B) (hS : S.2.2 a = some (.inl (1, n, .inl f))) (hi : vp_in i n) (hd : decode M.2.1 pc = .ok (.iastore, 1)) (hp : pc + 1 = pc') (k : ks_X l G M d pc' lv st (ks_set S a (.inl (1, n, .inl (upd f i.toNatClampNeg x)))) P) : ks_X l G M d pc lv (.int x :: .int i :: .ref a :: st) S P := by
  subst hp
  refine ks_write (S1 := ks_set S a (.inl (1, n, .inl (upd f i.toNatClampNeg x)))) rfl rfl (fun p e R s m args below meth c H locs cells slots ls Q CC hH hS0 hls k => ?_) k
  obtain ⟨h1, h2, h3⟩ := ks_ltA hH hS hb
  show W p l e R s m args below meth c H locs cells slots Q (F0 m pc ls (.int x :: .int i :: .ref (ks_ad G a) :: st.map (ks_v G)))
  rw [h2]
  have hK := CC.2.2.2.2.2.2.2.2.1.1
  refine W.iast (cell := arrV (G.2.1 1) n (fun j => .int (f j))) CC.1 CC.2.1 h3 ((hK.2 1 (G.2.1 1, .int) rfl).1 n _) (fun q => by cases q) (by rw [arrV_size]; exact hi) rfl rfl hd fun H' e1 e2 e3 => ?_
  refine k H' _ (hH.set h1 e2 e3 ?_) (hS0.put e2 e3 (Nat.le_add_right _ _))
  show H'[G.2.2.1 + a]? = some (arrV (G.2.1 1) n (fun j => .int (upd f i.toNatClampNeg x j)))
  rw [e1, arrV_store]
  congr 2
  funext q
  by_cases hq : q = i.toNatClampNeg <;> simp [updV, upd, hq]
theorem ks_bast {a n : Nat} {f : Nat → Int32} {i x : Int32} (hS : S.2.2 a = some (.inl (0, n, .inl f))) (hi : vp_in i n) (hd : decode M.2.1 pc = .ok (.bastore, 1)) (hp : pc + 1 = pc') (k : ks_X l G M d pc' lv st (ks_set S a (.inl (0, n, .inl (upd f i.toNatClampNeg x.toInt8.toInt32)))) P) : ks_X l G M d pc lv (.int x :: .int i :: .ref a :: st) S P := by
  subst hp
  refine ks_write (S1 := ks_set S a (.inl (0, n, .inl (upd f i.toNatClampNeg x.toInt8.toInt32)))) rfl rfl (fun p e R s m args below meth c H locs cells slots ls Q CC hH hS0 hls k => ?_) k
  obtain ⟨h1, h2, h3⟩ := ks_ltT hH hS (by decide)
  show W p l e R s m args below meth c H locs cells slots Q (F0 m pc ls (.int x :: .int i :: .ref (ks_ad G a) :: st.map (ks_v G)))
  rw [h2]
  have hK := CC.2.2.2.2.2.2.2.2.1.1
  refine W.bast (cell := arrV (G.2.1 0) n (fun j => .int (f j))) CC.1 CC.2.1 h3 ((hK.2 0 (G.2.1 0, .byte) rfl).1 n _) (fun q => by cases q) (by rw [arrV_size]; exact hi) rfl rfl hd fun H' e1 e2 e3 => ?_
  refine k H' _ (hH.set h1 e2 e3 ?_) (hS0.put e2 e3 (Nat.le_add_right _ _))
  show H'[G.2.2.1 + a]? = some (arrV (G.2.1 0) n (fun j => .int (upd f i.toNatClampNeg x.toInt8.toInt32 j)))
  rw [e1, arrV_store]
  congr 2
  funext q
  by_cases hq : q = i.toNatClampNeg <;> simp [updV, upd, hq, narrow]
theorem ks_zast {a n : Nat} {f : Nat → Int32} {i x : Int32} (hS : S.2.2 a = some (.inl (3, n, .inl f))) (hi : vp_in i n) (hx : narrow .boolean (.int x) = .int x) (hd : decode M.2.1 pc = .ok (.bastore, 1)) (hp : pc + 1 = pc') (k : ks_X l G M d pc' lv st (ks_set S a (.inl (3, n, .inl (upd f i.toNatClampNeg x)))) P) : ks_X l G M d pc lv (.int x :: .int i :: .ref a :: st) S P := by
  subst hp
  refine ks_write (S1 := ks_set S a (.inl (3, n, .inl (upd f i.toNatClampNeg x)))) rfl rfl (fun p e R s m args below meth c H locs cells slots ls Q CC hH hS0 hls k => ?_) k
  obtain ⟨h1, h2, h3⟩ := ks_ltT hH hS (by decide)
  show W p l e R s m args below meth c H locs cells slots Q (F0 m pc ls (.int x :: .int i :: .ref (ks_ad G a) :: st.map (ks_v G)))
  rw [h2]
  have hK := CC.2.2.2.2.2.2.2.2.1.1
  refine W.zast (cell := arrV (G.2.1 3) n (fun j => .int (f j))) CC.1 CC.2.1 h3 ((hK.2 3 (G.2.1 3, .boolean) rfl).1 n _) (fun q => by cases q) (by rw [arrV_size]; exact hi) rfl rfl hd fun H' e1 e2 e3 => ?_
  refine k H' _ (hH.set h1 e2 e3 ?_) (hS0.put e2 e3 (Nat.le_add_right _ _))
  show H'[G.2.2.1 + a]? = some (arrV (G.2.1 3) n (fun j => .int (upd f i.toNatClampNeg x j)))
  rw [e1, arrV_store, hx]
  congr 2
  funext q
  by_cases hq : q = i.toNatClampNeg <;> simp [updV, upd, hq]
theorem ks_last {a n : Nat} {f : Nat → Int64} {i : Int32} {x : Int64} (hS : S.2.2 a = some (.inl (2, n, .inr (.inl f)))) (hi : vp_in i n) (hd : decode M.2.1 pc = .ok (.lastore, 1)) (hp : pc + 1 = pc') (k : ks_X l G M d pc' lv st (ks_set S a (.inl (2, n, .inr (.inl (vp_updL f i.toNatClampNeg x))))) P) : ks_X l G M d pc lv (.long x :: .int i :: .ref a :: st) S P := by
  subst hp
  refine ks_write (S1 := ks_set S a (.inl (2, n, .inr (.inl (vp_updL f i.toNatClampNeg x))))) rfl rfl (fun p e R s m args below meth c H locs cells slots ls Q CC hH hS0 hls k => ?_) k
  obtain ⟨h1, h2, h3⟩ := ks_ltT hH hS (by decide)
  show W p l e R s m args below meth c H locs cells slots Q (F0 m pc ls (.long x :: .int i :: .ref (ks_ad G a) :: st.map (ks_v G)))
  rw [h2]
  have hK := CC.2.2.2.2.2.2.2.2.1.1
  refine W.last (cell := arrV (G.2.1 2) n (fun j => .long (f j))) CC.1 CC.2.1 h3 ((hK.2 2 (G.2.1 2, .long) rfl).1 n _) (fun q => by cases q) (by rw [arrV_size]; exact hi) rfl rfl hd fun H' e1 e2 e3 => ?_
  refine k H' _ (hH.set h1 e2 e3 ?_) (hS0.put e2 e3 (Nat.le_add_right _ _))
  show H'[G.2.2.1 + a]? = some (arrV (G.2.1 2) n (fun j => .long (vp_updL f i.toNatClampNeg x j)))
  rw [e1, arrV_store]
  congr 2
  funext q
  by_cases hq : q = i.toNatClampNeg <;> simp [updV, vp_updL, hq]
/-- a row of objects of vwCl's class ci, t its kind -/
theorem ks_aast {a n t b ci : Nat} {r : vw_C} {g : Nat → Option Nat} {fs : List Value} {i : Int32} (ht : (ks_tys G)[t]? = some (G.2.1 t, .object r.1)) (ht1 : t ≠ 1) (hc : vwCl[ci]? = some r) (hS : S.2.2 a = some (.inl (t, n, .inr (.inr (.inr (.inr g)))))) (hSb : S.2.2 b = some (.inr (ci, fs))) (hi : vp_in i n) (hd : decode M.2.1 pc = .ok (.aastore, 1)) (hp : pc + 1 = pc') (k : ks_X l G M d pc' lv st (ks_set S a (.inl (t, n, .inr (.inr (.inr (.inr (va_up g i.toNatClampNeg (some b)))))))) P) : ks_X l G M d pc lv (.ref b :: .int i :: .ref a :: st) S P := by
  subst hp
  refine ks_write (S1 := ks_set S a (.inl (t, n, .inr (.inr (.inr (.inr (va_up g i.toNatClampNeg (some b)))))))) rfl rfl (fun p e R s m args below meth c H locs cells slots ls Q CC hH hS0 hls k => ?_) k
  obtain ⟨h1, h2, h3⟩ := ks_ltT hH hS ht1
  obtain ⟨b1, b2, r', h4, cellV, g1, g2, g3, -⟩ := ks_lt hH hSb
  show W p l e R s m args below meth c H locs cells slots Q (F0 m pc ls (.ref (ks_ad G b) :: .int i :: .ref (ks_ad G a) :: st.map (ks_v G)))
  rw [h2]
  have hK := CC.2.2.2.2.2.2.2.2.1.1
  have hlt : i.toNatClampNeg < n := Nat.not_le.mp fun q => hi (Or.inr q)
  have h0 : ¬ i < 0 := fun q => hi (Or.inl q)
  have hcls := (hK.1 ci r hc).2
  obtain ⟨kA, comp, k1, k2, k3, -⟩ := (hK.2 t _ ht).2
  have hcomp : comp = G.1.1 ci := Option.some.inj (k3.symm.trans hcls.1)
  subst hcomp
  obtain ⟨kC, hkC, -⟩ := hcls.2
  refine W.aast (cell := arrV (G.2.1 t) n (fun j => va_rf ((g j).map (ks_ad G)))) CC.1 CC.2.1 h3 (fun q h => by cases h) (fun h => by cases h) k1 k2 rfl hkC ⟨h0, by rw [arrV_size]; exact hlt⟩ (by rw [b2]; exact g1) (fun q h => by rw [g3] at h; cases h) (by rw [g2]; exact hkC) (by rw [g2]; exact va_assign hcls) rfl rfl hd fun H' e1 e2 e3 => ?_
  refine k H' _ (hH.set h1 e2 e3 ?_) (hS0.put e2 e3 (Nat.le_add_right _ _))
  show H'[G.2.2.1 + a]? = some (arrV (G.2.1 t) n (fun j => va_rf ((va_up g i.toNatClampNeg (some b) j).map (ks_ad G))))
  rw [e1, arrV_store]
  congr 2
  funext q
  by_cases hq : q = i.toNatClampNeg <;> simp [updV, va_up, hq, va_rf]
/-- new -/
theorem ks_newc {ci N ix : Nat} {C : String} {T : u_T} {ty0 : Nat → FieldType} {fs : List Value} (hcl : Cond.classLink M.1 ix C ∈ lw_tbl) (hinst : Cond.instantiable C N ∈ lw_tbl) (hini : Cond.initialized C ∈ lw_tbl) (hin : ∀ w ∈ u_ws C T N, w ∈ lw_tbl ∧ goodWord w = true) (hty : ∀ k, k < N → parseFieldDescriptor (T k).2.2.1 = some (ty0 k)) (hc : vwCl[ci]? = some (C, T, N)) (hfs : ∀ j, j < N → defaultValue (ty0 j) = vp_V fs j) (hmap : fs.map (ks_v G) = fs) (hB : S.1 < ks_B) (hd : decode M.2.1 pc = .ok (.new ix, 3)) (hp : pc + 3 = pc') (k : ks_X l G M d pc' lv (.ref S.1 :: st) (ks_add S N (.inr (ci, fs))) P) : ks_X l G M d pc lv st S P := by
  subst hp
  refine ks_make (S1 := ks_add S N (.inr (ci, fs))) (kc := 1) (n := N) rfl rfl (fun p e R s m args below meth c H locs cells slots ls Q CC hH hS0 hls hcc hss k => ?_) k
  have hK := CC.2.2.2.2.2.2.2.2.1.1
  have hKn := hK.1 ci _ hc
  have hts : ∀ w ∈ u_ws C T N, w.before args s = true := fun w hw => CC.2.2.2.2.2.1 w (hin w hw).1 (hin w hw).2
  refine W.newcK CC.1 CC.2.1 CC.2.2.2.2.1 (CC.2.2.2.2.2.1 _ hcl rfl) (CC.2.2.2.2.2.1 _ hinst rfl) (CC.2.2.2.2.2.1 _ hini rfl) rfl hd hcc hss hKn.2.1 hH.1 fun H1 kC hkC e1 z1 o1 => ?_
  have h9 := k H1 (hH.add hB (by rw [z1, hH.1]) (fun q hq => o1 q (by rw [← hH.1]; exact hq)) (by
    show va_at G.1 vwCl (G.2.2.1 + S.1, .inr (ci, fs.map (ks_v G))) H1
    rw [hmap]
    exact ⟨_, hc, (u_born ty0 hts (fun _ h => h) hKn hkC e1 hty).to hfs⟩)) ⟨Nat.le_trans hS0.1 (by rw [z1, hH.1]; omega), fun q g1 g2 => (o1 q (by rw [← hH.1]; exact Nat.lt_of_lt_of_le g1 hS0.1)).trans (hS0.2.1 q g1 g2), hS0.2.2⟩
  have e5 : (List.map (ks_v G) (.ref S.1 :: st)) = (.ref (G.2.2.1 + S.1) :: st.map (ks_v G)) := by
    show (Value.ref (ks_ad G S.1) :: _) = _
    rw [ks_ad_lt hB]
  rw [e5] at h9
  exact h9
/-- newarray of numbers: t its kind -/
theorem ks_newa {t N : Nat} {at9 : ArrayType} {ty : FieldType} {n : Int32} {A0 : vp_A} (hty : newarray.typeOf at9 = ty) (ht : (ks_tys G)[t]? = some (G.2.1 t, ty)) (hra : ∀ U : State, va_RA U (G.2.1 t) ty → U.vm.findClass ("[" ++ ty.toString) = some (G.2.1 t)) (hw : Cond.arrayClass ty ∈ lw_tbl) (hA : ∀ cA : ClassId, vp_cell cA (ks_a G A0) = arrV cA N (fun _ => defaultValue ty)) (hn : ¬ n < 0) (hN : n.toNatClampNeg = N) (hbytes : N * componentBytes ty ≤ 536870912) (hB : S.1 < ks_B) (hd : decode M.2.1 pc = .ok (.newarray at9, 2)) (hp : pc + 2 = pc') (k : ks_X l G M d pc' lv (.ref S.1 :: st) (ks_add S N (.inl (t, A0))) P) : ks_X l G M d pc lv (.int n :: st) S P := by
  subst hp
  subst hty
  refine ks_make (S1 := ks_add S N (.inl (t, A0))) (kc := 1) (n := N) rfl rfl (fun p e R s m args below meth c H locs cells slots ls Q CC hH hS0 hls hcc hss k => ?_) k
  have hK := CC.2.2.2.2.2.2.2.2.1.1
  refine va_newaK CC.1 CC.2.1 (CC.2.2.2.2.2.1 _ hw rfl) rfl hd rfl hn hN hbytes hcc hss hH.1 fun H1 cA e1 z1 o1 hAr hNm => ?_
  have hcA : cA = G.2.1 t := Option.some.inj (hNm.symm.trans (hra s (hK.2 t _ ht).2))
  subst hcA
  have h9 := k H1 (hH.add hB (by rw [z1, hH.1]) (fun q hq => o1 q (by rw [← hH.1]; exact hq)) (by
    show H1[G.2.2.1 + S.1]? = some (vp_cell (G.2.1 t) (ks_a G A0))
    rw [hA]
    exact e1)) ⟨Nat.le_trans hS0.1 (by rw [z1, hH.1]; omega), fun q g1 g2 => (o1 q (by rw [← hH.1]; exact Nat.lt_of_lt_of_le g1 hS0.1)).trans (hS0.2.1 q g1 g2), hS0.2.2⟩
  have e5 : (List.map (ks_v G) (.ref S.1 :: st)) = (.ref (G.2.2.1 + S.1) :: st.map (ks_v G)) := by
    show (Value.ref (ks_ad G S.1) :: _) = _
    rw [ks_ad_lt hB]
  rw [e5] at h9
  exact h9
-- returns
theorem ks_fin {s t : State} {H : Heap} {locs : List Loc} {v : Option Value} {args : Array Value} (hK : ks_K G s) (hH : ks_H G S s H) (hS : va_S (ks_A G) s.heap H locs) (ht : t.heap = H) (hW : s.WarmedH t.vm) : ks_Q G v S args s (.returned (v.map (ks_v G))) t :=
  ⟨rfl, by rw [ht]; exact hH.moved hW.alike, hK.warm hW, hS.F ht⟩
theorem ks_iret {x : Int32} (hr : M.2.2.2.1 = some .int) (hd : decode M.2.1 pc = .ok (.ireturn, 1)) (hP : P (some (.int x)) S) : ks_X l G M d pc lv [.int x] S P := by
  refine ⟨some (.int x), S, ⟨⟨Nat.le_refl _, Nat.le_refl _⟩, fun p e R s m args below meth c H locs cells slots ls CC hH hS hl h1 h2 => ?_⟩, hP⟩
  rw [Nat.sub_self, Nat.add_zero] at h1 h2
  rw [← h1, ← h2]
  exact W.iret (v := x) CC.1 CC.2.1 (CC.2.2.1.trans hr) (fun t ht hW => ks_fin (v := some (.int x)) CC.2.2.2.2.2.2.2.2.1 hH hS ht hW) hS.2.2 hd CC.2.2.2.2.2.2.1
theorem ks_zret {x : Int32} (hr : M.2.2.2.1 = some .boolean) (hx : narrow .boolean (.int x) = .int x) (hd : decode M.2.1 pc = .ok (.ireturn, 1)) (hP : P (some (.int x)) S) : ks_X l G M d pc lv [.int x] S P := by
  refine ⟨some (.int x), S, ⟨⟨Nat.le_refl _, Nat.le_refl _⟩, fun p e R s m args below meth c H locs cells slots ls CC hH hS hl h1 h2 => ?_⟩, hP⟩
  rw [Nat.sub_self, Nat.add_zero] at h1 h2
  rw [← h1, ← h2]
  exact W.zret (v := x) CC.1 CC.2.1 (CC.2.2.1.trans hr) hx (fun t ht hW => ks_fin (v := some (.int x)) CC.2.2.2.2.2.2.2.2.1 hH hS ht hW) hS.2.2 hd CC.2.2.2.2.2.2.1
theorem ks_lret {x : Int64} (hr : M.2.2.2.1 = some .long) (hd : decode M.2.1 pc = .ok (.lreturn, 1)) (hP : P (some (.long x)) S) : ks_X l G M d pc lv [.long x] S P := by
  refine ⟨some (.long x), S, ⟨⟨Nat.le_refl _, Nat.le_refl _⟩, fun p e R s m args below meth c H locs cells slots ls CC hH hS hl h1 h2 => ?_⟩, hP⟩
  rw [Nat.sub_self, Nat.add_zero] at h1 h2
  rw [← h1, ← h2]
  exact W.lret (v := x) CC.1 CC.2.1 (CC.2.2.1.trans hr) (fun t ht hW => ks_fin (v := some (.long x)) CC.2.2.2.2.2.2.2.2.1 hH hS ht hW) hS.2.2 hd CC.2.2.2.2.2.2.1
theorem ks_ret (hr : M.2.2.2.1 = none) (hd : decode M.2.1 pc = .ok (.return_, 1)) (hP : P none S) : ks_X l G M d pc lv [] S P := by
  refine ⟨none, S, ⟨⟨Nat.le_refl _, Nat.le_refl _⟩, fun p e R s m args below meth c H locs cells slots ls CC hH hS hl h1 h2 => ?_⟩, hP⟩
  rw [Nat.sub_self, Nat.add_zero] at h1 h2
  rw [← h1, ← h2]
  exact W.vret CC.1 CC.2.1 (CC.2.2.1.trans hr) (fun t ht hW => ks_fin (v := none) CC.2.2.2.2.2.2.2.2.1 hH hS ht hW) hS.2.2 hd CC.2.2.2.2.2.2.1
/-- Object.<init> -/
theorem ks_objInit {a ix : Nat} (hw : Cond.methodLink M.1 ix Lib.objectInit ∈ lw_tbl) (hi : Cond.instanceMethod Lib.objectInit ∈ lw_tbl) (hcd : Cond.code Lib.objectInit ⟨#[0xb1]⟩ 1 none ∈ lw_tbl) (hd1 : 1 ≤ d) (hsm : (st.map fun v => v.category).sum ≤ 100) (hd : decode M.2.1 pc = .ok (.invokespecial ix, 3)) (hp : pc + 3 = pc') (k : ks_X l G M d pc' lv st S P) : ks_X l G M d pc lv (.ref a :: st) S P := by
  subst hp
  refine ks_pure (fun p e R s m args below meth c H locs cells slots ls Q CC hl k => ?_) k
  have hcat : ((st.map (ks_v G)).map fun v => v.category) = st.map fun v => v.category := by
    rw [List.map_map]
    apply List.map_congr_left
    intro q _
    exact ks_v_cat G q
  exact W.objInit (a := ks_ad G a) CC.1 CC.2.1 CC.2.2.2.2.1 (CC.2.2.2.2.2.1 _ hw rfl) (CC.2.2.2.2.2.1 _ hi rfl) (CC.2.2.2.2.2.1 _ hcd rfl) rfl (hl.1.trans CC.2.2.2.1.symm) rfl hd (Nat.le_trans hd1 CC.2.2.2.2.2.2.2.2.2.1) (by rw [hcat]; have := CC.2.2.2.2.2.2.2.2.2.2; show 2 * 0 + _ + 12 ≤ _; omega) k
/-- getstatic of a static row -/
theorem ks_gets {ix i : Nat} {q : String × String × List Int32} {ref : String} (hq : ks_stat[i]? = some q) (hr : q.1 = ref) (hw : Cond.fieldLink M.1 ix ref q.2.1 "[I" ∈ lw_tbl) (hd : decode M.2.1 pc = .ok (.getstatic ix, 3)) (hp : pc + 3 = pc') (k : ks_X l G M d pc' lv (.ref (ks_B + i) :: st) S P) : ks_X l G M d pc lv st S P := by
  subst hp
  subst hr
  refine ks_read (fun p e R s m args below meth c H locs cells slots ls Q CC hH k => ?_) k
  obtain ⟨cf, kf, fi, f, a, cell, g1, g2, g3, g4, g5, g6, g7, g8⟩ := (hH.2.2.2 i q hq).1
  have e5 : (List.map (ks_v G) (.ref (ks_B + i) :: st)) = (.ref (G.2.2.2 i) :: st.map (ks_v G)) := by
    show (Value.ref (ks_ad G (ks_B + i)) :: _) = _
    unfold ks_ad
    rw [if_neg (by omega), Nat.add_sub_cancel_left]
  rw [e5] at k
  exact W.gets CC.1 CC.2.1 CC.2.2.2.2.1 (CC.2.2.2.2.2.1 _ hw rfl) g1 g2 g3 g4 g5 (fun h => by rw [h] at g6; cases g6) g7 rfl hd k
end KsH3
