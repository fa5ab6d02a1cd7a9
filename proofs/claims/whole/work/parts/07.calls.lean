/-! CALLS: a method's contract out of its walk, and its use -/
theorem ks_args_map (G : ks_G) : ∀ (As : List Value) (i : Nat), lv_args i (As.map (ks_v G)) = (lv_args i As).map (ks_q G)
  | [], i => rfl
  | v :: r, i => by
    show (i, ks_v G v) :: lv_args (if (ks_v G v).category = 2 then i + 2 else i + 1) (r.map (ks_v G)) = (i, ks_v G v) :: (lv_args (if v.category = 2 then i + 2 else i + 1) r).map (ks_q G)
    rw [ks_v_cat, ks_args_map G r]
theorem ks_sl_len (G : ks_G) : ∀ As : List Value, (lg_sl (As.map (ks_v G))).length = (lg_sl As).length
  | [] => rfl
  | v :: r => by
    have ih := ks_sl_len G r
    have e1 : ∀ (z : Value) (w : List Value), (lg_sl (z :: w)).length = (if z.category = 2 then 2 else 1) + (lg_sl w).length := fun z w => by
      unfold lg_sl
      rw [List.flatMap_cons, List.length_append]
      by_cases h : z.category = 2 <;> simp [h]
    rw [List.map_cons, e1, e1, ks_v_cat, ih]
theorem ks_blind {G : ks_G} {S : ks_S} (av : List Value) : FrameBlind (va_Pc av (fun U => ks_H G S U U.heap ∧ ks_K G U)) := fun a U g mk h =>
  ⟨h.1, ks_H.moved (u := U) (U := U.calling g mk a) (Vm.Alike.refl U.vm) h.2.1, ks_K.warm (s := U) (U := U.calling g mk a) (State.WarmedH.refl U) h.2.2⟩
/-- the walk of a method's body gives its contract -/
theorem ks_of {l : Launch} {G : ks_G} {y : MethodName} {M : ks_M} {d : Nat} {As : List Value} {S : ks_S} {P : Option Value → ks_S → Prop} (hpl : plainName y.cls = true) (ho : y.cls = M.1) (hn : y.name = M.2.2.2.2) (hlen : (lg_sl As).length ≤ M.2.2.1) (h : ks_X l G M d 0 (lv_args 0 As) [] S P) : ks_P l G y M d As S P := by
  obtain ⟨v, S', ⟨hm, hV⟩, hP⟩ := h
  refine ⟨v, S', ⟨hm, ?_⟩, hP⟩
  refine Met.ofW (cc := M.2.1) (maxL := M.2.2.1) (ret := M.2.2.2.1) hpl rfl ?_
  intro p e s m args below meth c s₁ B hml hv
  obtain ⟨rfl, hH, hK⟩ := hv
  have hts := atoms_spec (ws := ks_ws y M) B.pre
  have hown : s.vm.findClass y.cls = some m.cls := findClass_of_methodNamed B.named
  have hnm : meth.name = y.name := (name_of_methodNamed B.named B.method).1
  have hl := lv_entry (As.map (ks_v G)) (n := M.2.2.1) (by rw [ks_sl_len]; exact hlen)
  rw [ks_args_map] at hl
  rw [lg_entry_eq]
  exact hV p e _ s m _ below meth c s.heap [] 0 0 _ ⟨B.exec, B.bytes, B.returns, hml, by rw [← ho]; exact hown, fun w hw hg => hts w (List.mem_cons_of_mem _ (List.mem_filter.mpr ⟨hw, hg⟩)), B.notSynchronized, hnm.trans hn, hK, Nat.le_refl _, Nat.le_refl _⟩ hH va_S.rf hl (Nat.zero_add _) (Nat.zero_add _)
section KsC
variable {l : Launch} {G : ks_G} {M M' : ks_M} {y : MethodName} {d pc pc' : Nat} {lv : List (Nat × Value)} {st rest As : List Value} {S S1 : ks_S} {P P1 : Option Value → ks_S → Prop} {v1 : Option Value} {aa : Array Value}
/-- behind a call -/
theorem ks_after (hm1 : S.1 ≤ S1.1 ∧ S.2.1 ≤ S1.2.1) (hrun : ∀ (p : Program) (e : Env) (R : Room) (s : State) (m : MethodId) (args : Array Value) (below : List Frame) (meth : Method) (c : Code) (H : Heap) (locs : List Loc) (cells slots : Nat) (ls : Array Slot),
      ks_C G M (d + 1) p R s m args meth c → ks_H G S s H → ls.size = M.2.2.1 → cells + (S1.1 - S.1) ≤ R.cells → slots + (S1.2.1 - S.2.1) ≤ R.slots → va_Run p l e R s m args below meth c H locs cells slots (S1.1 - S.1) (S1.2.1 - S.2.1) (F0 m pc ls (st.map (ks_v G))) (rest.map (ks_v G)) (ks_Q G v1 S1 aa) (ks_A G))
    (hp : pc + 3 = pc') (k : ks_X l G M (d + 1) pc' lv (v1.toList ++ rest) S1 P) : ks_X l G M (d + 1) pc lv st S P := by
  subst hp
  obtain ⟨v, S', ⟨hm, hV⟩, hP⟩ := k
  refine ⟨v, S', ⟨⟨Nat.le_trans hm1.1 hm.1, Nat.le_trans hm1.2 hm.2⟩, fun p e R s m args below meth c H locs cells slots ls CC hH hS hl h1 h2 => ?_⟩, hP⟩
  intro T hT X
  obtain ⟨v', st₀, t, T', L, h0, X', hL, e1, e2, ⟨hv, hH1, hK1, hz, hk⟩, stp⟩ := hrun p e R s m args below meth c H locs cells slots ls CC hH hl.1 (by omega) (by omega) T hT X
  cases hv
  rw [h0] at hz hk
  have hal : s.vm.Alike t.vm := by rw [← e2]; exact X'.warmed.alike
  have hH2 : ks_H G S1 s T'.heap := by rw [e1]; exact hH1.moved hal.symm
  have hS2 : va_S (ks_A G) s.heap T'.heap (locs ++ L) := ⟨Nat.le_trans hS.1 (by rw [e1]; exact hz), fun q g1 g2 => by
      rw [e1, hk q (Nat.lt_of_lt_of_le g1 hS.1) g2]
      exact hS.2.1 q g1 g2, fun q hq => by
      rcases List.mem_append.mp hq with h | h
      · exact hS.2.2 q h
      · exact hL q h⟩
  have hw := hV p e R s m args below meth c T'.heap (locs ++ L) (cells + (S1.1 - S.1)) (slots + (S1.2.1 - S.2.1)) ls CC hH2 hS2 hl (by omega) (by omega)
  have e5 : (v1.toList ++ rest).map (ks_v G) = (v1.map (ks_v G)).toList ++ rest.map (ks_v G) := by cases v1 <;> rfl
  rw [e5] at hw
  obtain ⟨t2, a1, b1⟩ := hw T' rfl X'
  exact ⟨t2, stp t2 a1, b1⟩
theorem ks_cat (G : ks_G) (rest : List Value) : ((rest.map (ks_v G)).map fun v => v.category) = rest.map fun v => v.category := by
  rw [List.map_map]
  apply List.map_congr_left
  intro q _
  exact ks_v_cat G q
theorem ks_goodIn (hcd : Cond.code y M'.2.1 M'.2.2.1 M'.2.2.2.1 ∈ lw_tbl) : GoodIn (lw_tbl.filter goodWord) (ks_ws y M') := fun w hw => by
  rcases List.mem_cons.mp hw with h | h
  · subst h
    exact ⟨List.mem_filter.mpr ⟨hcd, rfl⟩, good_of_word rfl⟩
  · exact ⟨h, good_of_word (List.mem_filter.mp h).2⟩
/-- invokevirtual, the receiver's class being the method's -/
theorem ks_callV {b ix n ci : Nat} {r : vw_C} {fs : List Value} (hM : ks_P l G y M' d (.ref b :: As) S P1) (hS : S.2.2 b = some (.inr (ci, fs))) (hc : vwCl[ci]? = some r) (hr : y.cls = r.1)
    (hlk : Cond.methodLink M.1 ix y ∈ lw_tbl) (hin : Cond.instanceMethod y ∈ lw_tbl) (hse : Cond.selects r.1 y y ∈ lw_tbl) (hini : Cond.initialized r.1 ∈ lw_tbl) (hcd : Cond.code y M'.2.1 M'.2.2.1 M'.2.2.2.1 ∈ lw_tbl)
    (hd0 : y.cls ≠ "java/lang/invoke/MethodHandle" ∧ y.cls ≠ "java/lang/invoke/VarHandle" ∧ (parseMethodDescriptor y.desc).map (fun d => d.parameters.length) = some n) (hn : As.length = n) (hL : M'.2.2.1 ≤ 180) (hsm : (rest.map fun v => v.category).sum ≤ 8)
    (hst : st = As.reverse ++ .ref b :: rest) (hd : decode M.2.1 pc = .ok (.invokevirtual ix, 3)) (hp : pc + 3 = pc') (k : ∀ v1 S1, P1 v1 S1 → ks_X l G M (d + 1) pc' lv (v1.toList ++ rest) S1 P) : ks_X l G M (d + 1) pc lv st S P := by
  obtain ⟨v1, S1, ⟨hm1, hM⟩, hP1⟩ := hM
  refine ks_after (v1 := v1) (S1 := S1) (aa := (Value.ref (ks_ad G b) :: As.map (ks_v G)).toArray) hm1 (fun p e R s m args below meth c H locs cells slots ls CC hH hls hcc hss => ?_) hp (k v1 S1 hP1)
  obtain ⟨b1, b2, r', h4, cellV, g1, g2, g3, -⟩ := ks_lt hH hS
  have hts : ∀ w ∈ lw_tbl.filter goodWord, w.before args s = true := fun w hw => CC.2.2.2.2.2.1 w (List.mem_filter.mp hw).1 (List.mem_filter.mp hw).2
  have hK := CC.2.2.2.2.2.2.2.2.1
  have hfc := ((hK.1.1 ci r hc).2).1
  have hTs : GoodIn (lw_tbl.filter goodWord) (wsV M.1 ix r.1 y (ks_ws y M')) := fun w hw => by
    rcases List.mem_append.mp hw with h | h
    · simp only [List.mem_cons, List.not_mem_nil, or_false] at h
      rcases h with rfl | rfl | rfl | rfl
      · exact ⟨List.mem_filter.mpr ⟨hlk, rfl⟩, good_of_word rfl⟩
      · exact ⟨List.mem_filter.mpr ⟨hin, rfl⟩, good_of_word rfl⟩
      · exact ⟨List.mem_filter.mpr ⟨hse, rfl⟩, good_of_word rfl⟩
      · exact ⟨List.mem_filter.mpr ⟨hini, rfl⟩, good_of_word rfl⟩
    · exact ks_goodIn hcd w h
  exact va_runV (C := r.1) (b := ks_ad G b) (As := As.map (ks_v G)) ⟨CC.1, CC.2.1, CC.2.2.2.1, CC.2.2.2.2.1, hts⟩ hM (cwV n hts hTs rfl rfl rfl ⟨hr, hd0⟩ ⟨CC.2.2.2.2.2.2.2.2.2.1, by have := CC.2.2.2.2.2.2.2.2.2.2; show 8 + (M'.2.2.1 + 11) + 200 * d ≤ _; omega⟩)
    ⟨ks_blind _, ⟨cellV, by rw [b2]; exact g1, by rw [g3]; rfl, by rw [g2]; exact hfc⟩, fun U hU hW => ⟨rfl, by rw [hU]; exact hH.moved hW.alike, hK.warm hW⟩⟩ rfl (by rw [List.length_map]; exact hn) hls (by rw [hst]; simp [ks_v]) (lv_room (by rw [ks_cat]; exact hsm)) hd ⟨hcc, hss⟩
/-- invokestatic of a method of the own class -/
theorem ks_callS {ix n : Nat} (hM : ks_P l G y M' d As S P1) (hlk : Cond.methodLink M.1 ix y ∈ lw_tbl) (hstc : Cond.static y ∈ lw_tbl) (hini : Cond.initialized y.cls ∈ lw_tbl) (hcd : Cond.code y M'.2.1 M'.2.2.1 M'.2.2.2.1 ∈ lw_tbl)
    (hd0 : y.cls ≠ "java/lang/invoke/MethodHandle" ∧ y.cls ≠ "java/lang/invoke/VarHandle" ∧ (parseMethodDescriptor y.desc).map (fun d => d.parameters.length) = some n) (hn : As.length = n) (hL : M'.2.2.1 ≤ 180) (hsm : (rest.map fun v => v.category).sum ≤ 8)
    (hst : st = As.reverse ++ rest) (hd : decode M.2.1 pc = .ok (.invokestatic ix, 3)) (hp : pc + 3 = pc') (k : ∀ v1 S1, P1 v1 S1 → ks_X l G M (d + 1) pc' lv (v1.toList ++ rest) S1 P) : ks_X l G M (d + 1) pc lv st S P := by
  obtain ⟨v1, S1, ⟨hm1, hM⟩, hP1⟩ := hM
  refine ks_after (v1 := v1) (S1 := S1) (aa := (As.map (ks_v G)).toArray) hm1 (fun p e R s m args below meth c H locs cells slots ls CC hH hls hcc hss => ?_) hp (k v1 S1 hP1)
  have hts : ∀ w ∈ lw_tbl.filter goodWord, w.before args s = true := fun w hw => CC.2.2.2.2.2.1 w (List.mem_filter.mp hw).1 (List.mem_filter.mp hw).2
  have hK := CC.2.2.2.2.2.2.2.2.1
  exact va_runS (As := As.map (ks_v G)) ⟨CC.1, CC.2.1, CC.2.2.2.1, CC.2.2.2.2.1, hts⟩ hM ⟨callB_of n hts (ks_goodIn hcd) rfl rfl rfl (CC.2.2.2.2.2.1 _ hini rfl) (CC.2.2.2.2.2.1 _ hlk rfl) hd0 ⟨CC.2.2.2.2.2.2.2.2.2.1, by have := CC.2.2.2.2.2.2.2.2.2.2; show 8 + (M'.2.2.1 + 11) + 200 * d ≤ _; omega⟩, CC.2.2.2.2.2.1 _ hstc rfl⟩
    ⟨ks_blind _, fun U hU hW => ⟨rfl, by rw [hU]; exact hH.moved hW.alike, hK.warm hW⟩⟩ rfl (by rw [List.length_map]; exact hn) hls (by rw [hst]; simp) (lv_room (by rw [ks_cat]; exact hsm)) hd ⟨hcc, hss⟩
/-- invokespecial of a constructor -/
theorem ks_callI {b ix n : Nat} (hM : ks_P l G y M' d (.ref b :: As) S P1) (hr : M'.2.2.2.1 = none) (hy : y.name = "<init>") (hlk : Cond.methodLink M.1 ix y ∈ lw_tbl) (hin : Cond.instanceMethod y ∈ lw_tbl) (hini : Cond.initialized y.cls ∈ lw_tbl) (hcd : Cond.code y M'.2.1 M'.2.2.1 M'.2.2.2.1 ∈ lw_tbl)
    (hd0 : y.cls ≠ "java/lang/invoke/MethodHandle" ∧ y.cls ≠ "java/lang/invoke/VarHandle" ∧ (parseMethodDescriptor y.desc).map (fun d => d.parameters.length) = some n) (hn : As.length = n) (hL : M'.2.2.1 ≤ 180) (hsm : (rest.map fun v => v.category).sum ≤ 8)
    (hst : st = As.reverse ++ .ref b :: rest) (hd : decode M.2.1 pc = .ok (.invokespecial ix, 3)) (hp : pc + 3 = pc') (k : ∀ v1 S1, P1 v1 S1 → ks_X l G M (d + 1) pc' lv (v1.toList ++ rest) S1 P) : ks_X l G M (d + 1) pc lv st S P := by
  obtain ⟨v1, S1, ⟨hm1, hM⟩, hP1⟩ := hM
  refine ks_after (v1 := v1) (S1 := S1) (aa := (Value.ref (ks_ad G b) :: As.map (ks_v G)).toArray) hm1 (fun p e R s m args below meth c H locs cells slots ls CC hH hls hcc hss => ?_) hp (k v1 S1 hP1)
  have hts : ∀ w ∈ lw_tbl.filter goodWord, w.before args s = true := fun w hw => CC.2.2.2.2.2.1 w (List.mem_filter.mp hw).1 (List.mem_filter.mp hw).2
  have hK := CC.2.2.2.2.2.2.2.2.1
  exact va_runI (b := ks_ad G b) (As := As.map (ks_v G)) ⟨CC.1, CC.2.1, CC.2.2.2.1, CC.2.2.2.2.1, hts⟩ hM (cwI n hts (ks_goodIn hcd) (by unfold ks_ws; rw [hr]) rfl rfl (CC.2.2.2.2.2.1 _ hini rfl) (CC.2.2.2.2.2.1 _ hlk rfl) (CC.2.2.2.2.2.1 _ hin rfl) hy hd0 ⟨CC.2.2.2.2.2.2.2.2.2.1, by have := CC.2.2.2.2.2.2.2.2.2.2; show 8 + (M'.2.2.1 + 11) + 200 * d ≤ _; omega⟩)
    ⟨ks_blind _, fun U hU hW => ⟨rfl, by rw [hU]; exact hH.moved hW.alike, hK.warm hW⟩⟩ rfl (by rw [List.length_map]; exact hn) hls (by rw [hst]; simp [ks_v]) (lv_room (by rw [ks_cat]; exact hsm)) hd ⟨hcc, hss⟩
/-- invokespecial of a nest mate's private constructor -/
theorem ks_callIN {b ix n : Nat} {host : String} (hM : ks_P l G y M' d (.ref b :: As) S P1) (hr : M'.2.2.2.1 = none) (hy : y.name = "<init>") (hlk : Cond.methodLinkNest M.1 ix y host ∈ lw_tbl) (hin : Cond.instanceMethod y ∈ lw_tbl) (hini : Cond.initialized y.cls ∈ lw_tbl) (hcd : Cond.code y M'.2.1 M'.2.2.1 M'.2.2.2.1 ∈ lw_tbl)
    (hd0 : y.cls ≠ "java/lang/invoke/MethodHandle" ∧ y.cls ≠ "java/lang/invoke/VarHandle" ∧ (parseMethodDescriptor y.desc).map (fun d => d.parameters.length) = some n) (hn : As.length = n) (hL : M'.2.2.1 ≤ 180) (hsm : (rest.map fun v => v.category).sum ≤ 8)
    (hst : st = As.reverse ++ .ref b :: rest) (hd : decode M.2.1 pc = .ok (.invokespecial ix, 3)) (hp : pc + 3 = pc') (k : ∀ v1 S1, P1 v1 S1 → ks_X l G M (d + 1) pc' lv (v1.toList ++ rest) S1 P) : ks_X l G M (d + 1) pc lv st S P := by
  obtain ⟨v1, S1, ⟨hm1, hM⟩, hP1⟩ := hM
  refine ks_after (v1 := v1) (S1 := S1) (aa := (Value.ref (ks_ad G b) :: As.map (ks_v G)).toArray) hm1 (fun p e R s m args below meth c H locs cells slots ls CC hH hls hcc hss => ?_) hp (k v1 S1 hP1)
  have hts : ∀ w ∈ lw_tbl.filter goodWord, w.before args s = true := fun w hw => CC.2.2.2.2.2.1 w (List.mem_filter.mp hw).1 (List.mem_filter.mp hw).2
  have hK := CC.2.2.2.2.2.2.2.2.1
  exact va_runIN (b := ks_ad G b) (As := As.map (ks_v G)) ⟨CC.1, CC.2.1, CC.2.2.2.1, CC.2.2.2.2.1, hts⟩ hM ⟨va_cnB n hts (ks_goodIn hcd) (by unfold ks_ws; rw [hr]) rfl rfl (hK.2.1 _ hlk rfl) (CC.2.2.2.2.2.1 _ hini rfl) hd0 ⟨CC.2.2.2.2.2.2.2.2.2.1, by have := CC.2.2.2.2.2.2.2.2.2.2; show 8 + (M'.2.2.1 + 11) + 200 * d ≤ _; omega⟩, hy, CC.2.2.2.2.2.1 _ hin rfl⟩
    ⟨ks_blind _, fun U hU hW => ⟨rfl, by rw [hU]; exact hH.moved hW.alike, hK.warm hW⟩⟩ rfl (by rw [List.length_map]; exact hn) hls (by rw [hst]; simp [ks_v]) (lv_room (by rw [ks_cat]; exact hsm)) hd ⟨hcc, hss⟩
end KsC
