/-! System.arraycopy -/
theorem ks_stretch {α : Type} (mk : α → Value) {cs : Cell} {sp n : Nat} {f : Nat → α} (hval : ∀ i, i < n → cs.slots[sp + i]? = some (mk (f (sp + i)))) : cs.stretch sp n = (List.range n).map (fun i => mk (f (sp + i))) := by
  unfold Cell.stretch
  apply List.map_congr_left
  intro i hi
  rw [Array.getD_eq_getD_getElem?, hval i (List.mem_range.mp hi)]
  rfl
theorem ks_nn (z : Int32) (hz : ¬ z < 0) : z.toInt = (z.toNatClampNeg : Int) := by
  have hz0 : (0 : Int) ≤ z.toInt := by
    have := Int32.not_lt.mp hz
    simpa using Int32.le_iff_toInt_le.mp this
  show z.toInt = ((z.toInt.toNat : Nat) : Int)
  omega
theorem ks_copyW {α : Type} (mk : α → Value) {p : Program} {l : Launch} {e : Env} {R : Room} {s : State} {m : MethodId} {args : Array Value} {below : List Frame} {meth : Method} {c : Code} {H : Heap} {locs : List Loc} {cells slots : Nat} {Q : State → Prop} {cc : ByteArray} {pc : Nat} {ls : Array Slot} {rest : List Value} {src a : Nat}
    (hexec : p.tables.exec = Jvm.exec) (hb : c.code = cc) (hls : ls.size = c.maxLocals) {own : String} {index : Nat} (hown : s.vm.findClass own = some m.cls) (hlink : (Cond.methodLink own index arraycopyName).before args s = true) (hnat : (Cond.native arraycopyName).before args s = true) (hstat : (Cond.static arraycopyName).before args s = true) (hini : (Cond.initialized "java/lang/System").before args s = true)
    {ty : FieldType} (hprim : refKind ty = false) {cs : Cell} (hcs : H[src]? = some cs) (hsa : s.isArrayOf cs ty) (hsk : cs.vm ≠ .unknown) {c1 : ClassId} {n1 : Nat} {f g : Nat → α} (hcd : H[a]? = some (arrV c1 n1 (fun j => mk (g j)))) (hda : s.isArrayOf (arrV c1 n1 (fun j => mk (g j))) ty)
    {sp dp n : Int32} (h1 : ¬ sp < 0) (h2 : ¬ dp < 0) (h3 : ¬ n < 0) (h4 : sp.toNatClampNeg + n.toNatClampNeg ≤ cs.slots.size) (h5 : dp.toNatClampNeg + n.toNatClampNeg ≤ n1) (hval : ∀ i, i < n.toNatClampNeg → cs.slots[sp.toNatClampNeg + i]? = some (mk (f (sp.toNatClampNeg + i)))) (hfit : ∀ i, fits ty (mk (f i)) = true) (htk : ∀ (U : State) (k : ClassId) (z : α), U.takes k (mk z))
    (hframes : 1 ≤ R.frames) (hlocals : (rest.map fun v => v.category).sum + (nativeFrameWords "java/lang/System" "arraycopy" 5 + 11) ≤ R.locals) (hdg : decode cc pc = .ok (.invokestatic index, 3))
    (kk : ∀ (H1 : Heap) (locs1 : List Loc), H1[a]? = some (arrV c1 n1 (fun j => mk (va_cpy f g sp.toNatClampNeg dp.toNatClampNeg n.toNatClampNeg j))) → H1.size = H.size → (∀ q, q ≠ a → H1[q]? = H[q]?) → (∀ z ∈ locs1, z ∈ locs ∨ z.base = a) → W p l e R s m args below meth c H1 locs1 cells slots Q (F0 m (pc + 3) ls rest)) : W p l e R s m args below meth c H locs cells slots Q (F0 m pc ls (.int n :: .int dp :: .ref a :: .int sp :: .ref src :: rest)) := by
  intro T hT X
  obtain ⟨hs0, k0, hk0, cm0, hkk0⟩ := id hsa
  obtain ⟨hd0, k1, hk1, cm1, hkk1⟩ := id hda
  obtain ⟨vm', X', step⟩ := X.arraycopy hexec hown hlink hnat hstat hini (src := src) (dst := a) (cs := cs) (cd := arrV c1 n1 (fun j => mk (g j))) (srcPos := sp) (destPos := dp) (n := n) (by rw [hT]; exact hcs) (by rw [hT]; exact hcd)
    hs0 hd0 hsk (fun h => by cases h) hk0 hk1 hkk0 hkk1 (by simp [hprim]) h1 h2 h3
    (by rw [ks_nn sp h1, ks_nn n h3]; omega)
    (by rw [ks_nn dp h2, ks_nn n h3, arrV_size]; omega)
    (fun vm₁ _ i hi => by
      have e : cs.slots.getD (sp.toNatClampNeg + i) .null = mk (f (sp.toNatClampNeg + i)) := by
        rw [Array.getD_eq_getD_getElem?, hval i hi]
        rfl
      rw [e]
      exact ⟨hfit _, htk _ _ _⟩)
    (g := F0 m pc ls (.int n :: .int dp :: .ref a :: .int sp :: .ref src :: rest)) rfl hls (rest := rest) rfl (by rw [hb]; exact hdg) hframes (by show 2 * 0 + _ + _ ≤ _; omega)
  have e1 : copied cs (arrV c1 n1 (fun j => mk (g j))) sp dp n = arrV c1 n1 (fun j => mk (va_cpy f g sp.toNatClampNeg dp.toNatClampNeg n.toNatClampNeg j)) := by
    show (arrV c1 n1 (fun j => mk (g j))).storeRun dp.toNatClampNeg (cs.stretch sp.toNatClampNeg n.toNatClampNeg) = _
    rw [ks_stretch mk hval, ← ks_stretch mk (cs := arrV c1 (sp.toNatClampNeg + n.toNatClampNeg) (fun j => mk (f j))) (fun i hi => arrV_read _ _ (by omega))]
    exact va_copied mk c1 c1 f g (Nat.le_refl _)
  rw [e1] at X' step
  have hl : a < H.size := (Array.getElem?_eq_some_iff.mp hcd).1
  have hheap : ((T.setVm vm').setCell a (arrV c1 n1 (fun j => mk (va_cpy f g sp.toNatClampNeg dp.toNatClampNeg n.toNatClampNeg j)))).heap = H.setIfInBounds a (arrV c1 n1 (fun j => mk (va_cpy f g sp.toNatClampNeg dp.toNatClampNeg n.toNatClampNeg j))) := by rw [← hT]; rfl
  obtain ⟨t, a1, b1⟩ := kk _ _ (by simp [Array.getElem?_setIfInBounds, hl]) (by simp) (fun q hq => by simp [Array.getElem?_setIfInBounds, Ne.symm hq]) (fun z hz => by
    rcases List.mem_append.mp hz with h | h
    · exact Or.inl h
    · obtain ⟨w, -, hw⟩ := List.mem_map.mp h
      rw [← hw]
      exact Or.inr rfl) _ hheap X'
  exact ⟨t, step t a1, b1⟩
section KsCp
variable {l : Launch} {G : ks_G} {M : ks_M} {d pc pc' : Nat} {lv : List (Nat × Value)} {st : List Value} {S : ks_S} {P : Option Value → ks_S → Prop}
theorem ks_locs {s : State} {H H1 : Heap} {locs locs1 : List Loc} {a : Nat} (h : va_S (ks_A G) s.heap H locs) (z : H1.size = H.size) (oq : ∀ q : Nat, q ≠ G.2.2.1 + a → H1[q]? = H[q]?) (hl : ∀ x ∈ locs1, x ∈ locs ∨ x.base = G.2.2.1 + a) : va_S (ks_A G) s.heap H1 locs1 :=
  ⟨by rw [z]; exact h.1, fun q h1 h2 => by
    rw [oq q (fun e => h2 (by rw [e]; exact Nat.le_add_right _ _))]
    exact h.2.1 q h1 h2, fun x hx => by
    rcases hl x hx with h1 | h1
    · exact h.2.2 x h1
    · show _ ≤ _
      rw [h1]
      exact Nat.le_add_right _ _⟩
/-- arraycopy between rows of ints or bytes (t their kind); the source may be a static row -/
theorem ks_copyi {t ix a0 a1 n0 n1 sp dp n : Nat} {ty : FieldType} {f g : Nat → Int32} (ht : (ks_tys G)[t]? = some (G.2.1 t, ty)) (hty : t = 1 → ty = .int) (hprim : refKind ty = false) (hb1 : a1 < ks_B) (h0 : S.2.2 a0 = some (.inl (t, n0, .inl f))) (h1 : S.2.2 a1 = some (.inl (t, n1, .inl g))) (hs : sp + n ≤ n0) (hdd : dp + n ≤ n1) (hn0 : n0 < 2 ^ 31) (hn1 : n1 < 2 ^ 31) (hfit : ∀ i, fits ty (.int (f i)) = true)
    (hlk : Cond.methodLink M.1 ix arraycopyName ∈ lw_tbl) (hnt : Cond.native arraycopyName ∈ lw_tbl) (hstc : Cond.static arraycopyName ∈ lw_tbl) (hini : Cond.initialized "java/lang/System" ∈ lw_tbl) (hd1 : 1 ≤ d) (hsm : (st.map fun v => v.category).sum ≤ 8) (hd : decode M.2.1 pc = .ok (.invokestatic ix, 3)) (hp : pc + 3 = pc') (k : ks_X l G M d pc' lv st (ks_set S a1 (.inl (t, n1, .inl (va_cpy f g sp dp n)))) P) : ks_X l G M d pc lv (.int (nI n) :: .int (nI dp) :: .ref a1 :: .int (nI sp) :: .ref a0 :: st) S P := by
  subst hp
  refine ks_write (S1 := ks_set S a1 (.inl (t, n1, .inl (va_cpy f g sp dp n)))) rfl rfl (fun p e R s m args below meth c H locs cells slots ls Q CC hH hS0 hls k => ?_) k
  obtain ⟨q1, q2, q3⟩ := ks_ltA hH h1 hb1
  have hK := CC.2.2.2.2.2.2.2.2.1.1
  show W p l e R s m args below meth c H locs cells slots Q (F0 m pc ls (.int (nI n) :: .int (nI dp) :: .ref (ks_ad G a1) :: .int (nI sp) :: .ref (ks_ad G a0) :: st.map (ks_v G)))
  rw [q2]
  have cn := nI_clamp (n := n) (by omega)
  have csp := nI_clamp (n := sp) (by omega)
  have cdp := nI_clamp (n := dp) (by omega)
  have e9 : nativeFrameWords "java/lang/System" "arraycopy" 5 + 11 ≤ 100 := by decide
  have key : ∀ cs : Cell, H[ks_ad G a0]? = some cs → s.isArrayOf cs ty → cs.vm ≠ .unknown → n0 ≤ cs.slots.size → (∀ j, j < n0 → cs.slots[j]? = some (.int (f j))) → W p l e R s m args below meth c H locs cells slots Q (F0 m pc ls (.int (nI n) :: .int (nI dp) :: .ref (G.2.2.1 + a1) :: .int (nI sp) :: .ref (ks_ad G a0) :: st.map (ks_v G))) := by
    intro cs g1 g2 g3 g4 g5
    refine ks_copyW (fun z => .int z) (sp := nI sp) (dp := nI dp) (n := nI n) (n1 := n1) (c1 := G.2.1 t) CC.1 CC.2.1 (hls.trans CC.2.2.2.1.symm) CC.2.2.2.2.1 (CC.2.2.2.2.2.1 _ hlk rfl) (CC.2.2.2.2.2.1 _ hnt rfl) (CC.2.2.2.2.2.1 _ hstc rfl) (CC.2.2.2.2.2.1 _ hini rfl) hprim g1 g2 g3 (f := f) (g := g) q3 ((hK.2 t _ ht).1 n1 _) (nI_pos (by omega)) (nI_pos (by omega)) (nI_pos (by omega)) (by rw [cn, csp]; omega) (by rw [cn, cdp]; omega) (fun i hi => by rw [cn] at hi; rw [csp]; exact g5 _ (by omega)) hfit (fun _ _ _ => trivial) (Nat.le_trans hd1 CC.2.2.2.2.2.2.2.2.2.1) (by rw [ks_cat]; have := CC.2.2.2.2.2.2.2.2.2.2; omega) hd fun H1 locs1 e1 z1 o1 l1 => ?_
    rw [cn, csp, cdp] at e1
    exact k H1 locs1 (hH.set q1 z1 o1 e1) (ks_locs hS0 z1 o1 l1)
  rcases hH.2.2.1 a0 _ h0 with ⟨b1, b2⟩ | ⟨j, q, ea, hq, he⟩
  · refine key (arrV (G.2.1 t) n0 (fun j => .int (f j))) ?_ ((hK.2 t _ ht).1 n0 _) (fun h => by cases h) (by rw [arrV_size]; exact Nat.le_refl _) (fun j hj => arrV_read _ _ hj)
    rw [ks_ad_lt (Nat.lt_of_lt_of_le b1 hH.2.1)]
    exact b2
  · cases he
    have e1 : ks_ad G a0 = G.2.2.2 j := by
      subst ea
      unfold ks_ad
      rw [if_neg (by omega), Nat.add_sub_cancel_left]
    obtain ⟨cell, g1, g2, g3, g4, g5, g6, g7⟩ := (hH.2.2.2 j q hq).2
    have ety := hty rfl
    subst ety
    exact key cell (by rw [e1]; exact g1) g2 g3 g4 g6
/-- arraycopy between rows of longs -/
theorem ks_copyl {ix a0 a1 n0 n1 sp dp n : Nat} {f g : Nat → Int64} (h0 : S.2.2 a0 = some (.inl (2, n0, .inr (.inl f)))) (h1 : S.2.2 a1 = some (.inl (2, n1, .inr (.inl g)))) (hs : sp + n ≤ n0) (hdd : dp + n ≤ n1) (hn0 : n0 < 2 ^ 31) (hn1 : n1 < 2 ^ 31)
    (hlk : Cond.methodLink M.1 ix arraycopyName ∈ lw_tbl) (hnt : Cond.native arraycopyName ∈ lw_tbl) (hstc : Cond.static arraycopyName ∈ lw_tbl) (hini : Cond.initialized "java/lang/System" ∈ lw_tbl) (hd1 : 1 ≤ d) (hsm : (st.map fun v => v.category).sum ≤ 8) (hd : decode M.2.1 pc = .ok (.invokestatic ix, 3)) (hp : pc + 3 = pc') (k : ks_X l G M d pc' lv st (ks_set S a1 (.inl (2, n1, .inr (.inl (va_cpy f g sp dp n))))) P) : ks_X l G M d pc lv (.int (nI n) :: .int (nI dp) :: .ref a1 :: .int (nI sp) :: .ref a0 :: st) S P := by
  subst hp
  refine ks_write (S1 := ks_set S a1 (.inl (2, n1, .inr (.inl (va_cpy f g sp dp n))))) rfl rfl (fun p e R s m args below meth c H locs cells slots ls Q CC hH hS0 hls k => ?_) k
  obtain ⟨q1, q2, q3⟩ := ks_ltT hH h1 (by decide)
  obtain ⟨b1, b2, b3⟩ := ks_ltT hH h0 (by decide)
  have hK := CC.2.2.2.2.2.2.2.2.1.1
  show W p l e R s m args below meth c H locs cells slots Q (F0 m pc ls (.int (nI n) :: .int (nI dp) :: .ref (ks_ad G a1) :: .int (nI sp) :: .ref (ks_ad G a0) :: st.map (ks_v G)))
  rw [q2, b2]
  have cn := nI_clamp (n := n) (by omega)
  have csp := nI_clamp (n := sp) (by omega)
  have cdp := nI_clamp (n := dp) (by omega)
  have e9 : nativeFrameWords "java/lang/System" "arraycopy" 5 + 11 ≤ 100 := by decide
  refine ks_copyW (fun z => .long z) (sp := nI sp) (dp := nI dp) (n := nI n) (n1 := n1) (c1 := G.2.1 2) (cs := arrV (G.2.1 2) n0 (fun j => .long (f j))) CC.1 CC.2.1 (hls.trans CC.2.2.2.1.symm) CC.2.2.2.2.1 (CC.2.2.2.2.2.1 _ hlk rfl) (CC.2.2.2.2.2.1 _ hnt rfl) (CC.2.2.2.2.2.1 _ hstc rfl) (CC.2.2.2.2.2.1 _ hini rfl) (ty := .long) rfl b3 ((hK.2 2 (G.2.1 2, .long) rfl).1 n0 _) (fun h => by cases h) (f := f) (g := g) q3 ((hK.2 2 (G.2.1 2, .long) rfl).1 n1 _) (nI_pos (by omega)) (nI_pos (by omega)) (nI_pos (by omega)) (by rw [cn, csp, arrV_size]; omega) (by rw [cn, cdp]; omega) (fun i hi => by rw [cn] at hi; rw [csp]; exact arrV_read _ _ (by omega)) (fun _ => rfl) (fun _ _ _ => trivial) (Nat.le_trans hd1 CC.2.2.2.2.2.2.2.2.2.1) (by rw [ks_cat]; have := CC.2.2.2.2.2.2.2.2.2.2; omega) hd fun H1 locs1 e1 z1 o1 l1 => ?_
  rw [cn, csp, cdp] at e1
  exact k H1 locs1 (hH.set q1 z1 o1 e1) (ks_locs hS0 z1 o1 l1)
end KsCp
