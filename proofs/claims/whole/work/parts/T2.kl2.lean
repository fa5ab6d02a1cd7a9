/-! THE LAW'S JUDGEMENT: a call that throws and is caught, a method with handlers and its call -/
theorem ks_U.at {G : ks_G} {s U : State} {H : Heap} {locs : List Loc} (h : ks_U G s s.heap) (hS : va_S (ks_A G) s.heap H locs) (hU : U.heap = H) (hW : s.WarmedH U.vm) : ks_U G U U.heap := by
  subst hU
  refine ⟨vx_Zq.moved hW.alike (vx_Zq.kept h.1 (fun a h1 h2 => hS.2.1 a h1 h2)), vx_Zq.moved hW.alike (vx_Zq.kept h.2.1 (fun a h1 h2 => hS.2.1 a h1 h2)), fun w hw ht => ?_⟩
  have h1 := h.2.2 w hw ht
  cases w <;> first | exact va_Nw.warmD hW h1 | exact va_Nw.warmC hW h1 | cases ht
theorem ks_U.same {G : ks_G} {u U : State} (hv : u.vm = U.vm) (hh : u.heap = U.heap) (h : ks_U G u u.heap) : ks_U G U U.heap := by
  rw [← hh]
  refine ⟨vx_Zq.moved (by rw [← hv]; exact Vm.Alike.refl _) h.1, vx_Zq.moved (by rw [← hv]; exact Vm.Alike.refl _) h.2.1, fun w hw ht => va_Nw.same (thw_on ht) hv (h.2.2 w hw ht)⟩
theorem kt_blind {G : ks_G} {S : ks_S} (av : List Value) : FrameBlind (va_Pc av (fun U => ks_H G S U U.heap ∧ ks_K G U ∧ ks_U G U U.heap)) := fun a U g mk h =>
  ⟨h.1, ks_H.moved (u := U) (U := U.calling g mk a) (Vm.Alike.refl U.vm) h.2.1, ks_K.warm (s := U) (U := U.calling g mk a) (State.WarmedH.refl U) h.2.2.1, ks_U.same (u := U) (U := U.calling g mk a) rfl rfl h.2.2.2⟩
theorem ks_ad_sc (G : ks_G) : ks_ad G ks_sc = G.2.2.2 1000 := by
  unfold ks_ad ks_sc
  rw [if_neg (by omega), show ks_B + 1000 - ks_B = 1000 by omega]
section KL2
variable {l : Launch} {G : ks_G} {hh : KH} {M M' : ks_M} {y : MethodName} {d pc pc' : Nat} {lv : List (Nat × Value)} {st rest As : List Value} {S : ks_S} {P P1 : Option Value → ks_S → Prop}
/-- storing what was caught: nothing is known of the locals then -/
def kl_As (l : Launch) (G : ks_G) (M : ks_M) (d hp pc9 : Nat) (lv : List (Nat × Value)) : Prop := ∀ (p : Program) (e : Env) (R : Room) (s : State) (m : MethodId) (args : Array Value) (below : List Frame) (meth : Method) (c : Code) (H : Heap) (locs : List Loc) (cells slots : Nat) (ls : Array Slot) (Q : State → Prop) (q : Addr),
  ks_C G M d p R s m args meth c → lv_has ls M.2.2.1 (lv.map (ks_q G)) → (∀ ls' : Array Slot, lv_has ls' M.2.2.1 [] → W p l e R s m args below meth c H locs cells slots Q (F0 m pc9 ls' [])) → W p l e R s m args below meth c H locs cells slots Q (F0 m hp ls [.ref q])
theorem kl_as_n {hp pc9 : Nat} {k4 : Fin 4} (hd : decode M.2.1 hp = .ok (.astore_n k4, 1)) (hn : (k4 : Nat) < M.2.2.1) (he : hp + 1 = pc9) : kl_As l G M d hp pc9 lv := by
  subst he
  intro p e R s m args below meth c H locs cells slots ls Q q CC hl k
  exact lv_astore_n CC.1 CC.2.1 hd rfl hl hn rfl (fun ls' h => k ls' ⟨h.1, h.2.1, fun q hq => by cases hq⟩)
theorem kl_as {hp pc9 i : Nat} (hd : decode M.2.1 hp = .ok (.astore i, 2)) (hn : i < M.2.2.1) (he : hp + 2 = pc9) : kl_As l G M d hp pc9 lv := by
  subst he
  intro p e R s m args below meth c H locs cells slots ls Q q CC hl k
  exact lv_astore CC.1 CC.2.1 hd hl hn rfl (fun ls' h => k ls' ⟨h.1, h.2.1, fun q hq => by cases hq⟩)
/-- invokevirtual of a method that throws, in the reach of a handler -/
theorem kl_catchV {b ix n ci k9 pc9 : Nat} {r : vw_C} {fs : List Value} {E : String} (pre : List ExceptionTableEntry) (x : ExceptionTableEntry) (suf : List ExceptionTableEntry) (hM : kt_P l G y M' d (.ref b :: As) S P1) (hk9 : ∀ v1 S1, P1 v1 S1 → v1 = some (.int (nI k9))) (hE : ks_xns[k9]? = some E)
    (hS : S.2.2 b = some (.inr (ci, fs))) (hc : vwCl[ci]? = some r) (hr : y.cls = r.1)
    (hlk : Cond.methodLink M.1 ix y ∈ lw_tbl) (hin : Cond.instanceMethod y ∈ lw_tbl) (hse : Cond.selects r.1 y y ∈ lw_tbl) (hini : Cond.initialized r.1 ∈ lw_tbl) (hcd : Cond.code y M'.2.1 M'.2.2.1 M'.2.2.2.1 ∈ lw_tbl)
    (hd0 : y.cls ≠ "java/lang/invoke/MethodHandle" ∧ y.cls ≠ "java/lang/invoke/VarHandle" ∧ (parseMethodDescriptor y.desc).map (fun d => d.parameters.length) = some n) (hn : As.length = n) (hL : M'.2.2.1 ≤ 180) (hsm : (rest.map fun v => v.category).sum ≤ 8)
    (hst : st = As.reverse ++ .ref b :: rest) (hd : decode M.2.1 pc = .ok (.invokevirtual ix, 3))
    (hhs : tableOf hh.1 = pre ++ x :: suf) (hpass : ∀ z ∈ pre, z.catchType ≠ 0 ∧ ∃ nm : String, Cond.classLink M.1 z.catchType nm ∈ lw_tbl ∧ ∀ U, ks_N U → va_Nc E nm U) (hx : covers x pc = true) (h0 : x.catchType ≠ 0) (hlink : Cond.classLink M.1 x.catchType E ∈ lw_tbl) (hcast : Cond.castable E E ∈ lw_tbl)
    (has : kl_As l G M (d + 1) x.handlerPc pc9 lv) (k : ∀ v1 S1, P1 v1 S1 → ks_L l G hh M (d + 1) pc9 [] [] S1 P) : ks_L l G hh M (d + 1) pc lv st S P := by
  obtain ⟨v1, S1, ⟨hm1, hM⟩, hP1⟩ := hM
  obtain ⟨v, S', ⟨hm, hV⟩, hP⟩ := k v1 S1 hP1
  have hv1 := hk9 v1 S1 hP1
  refine ⟨v, S', ⟨⟨Nat.le_trans hm1.1 hm.1, Nat.le_trans hm1.2 hm.2⟩, fun p e R s m args below meth c H locs cells slots ls CC hH hS0 hl h1 h2 => ?_⟩, hP⟩
  by_cases hyp : ks_HL l G hh s c
  · obtain ⟨b1, b2, r', h4, cellV, g1, g2, g3, -⟩ := ks_lt hH hS
    have hts : ∀ w ∈ lw_tbl.filter goodWord, w.before args s = true := fun w hw => CC.2.2.2.2.2.1 w (List.mem_filter.mp hw).1 (List.mem_filter.mp hw).2
    have hK := CC.2.2.2.2.2.2.2.2.1
    have hfc := ((hK.1.1 ci r hc).2).1
    have hTs : GoodIn (lw_tbl.filter goodWord) (wsV M.1 ix r.1 y (ks_ws y M')) := fun w hw => by
      rcases List.mem_append.mp hw with h | h
      · simp only [List.mem_cons, List.not_mem_nil, or_false] at h
        rcases h with rfl | rfl | rfl | rfl
        · exact ⟨List.mem_filter.mpr ⟨hlk, rfl⟩, good_of_word rfl⟩
        · exact ⟨List.mem_filter.mpr ⟨hin, rfl⟩, good_of_word rfl⟩
        · exact ⟨List.mem_filter.mpr ⟨hse, rfl⟩, good_of_word rfl⟩
        · exact ⟨List.mem_filter.mpr ⟨hini, rfl⟩, good_of_word rfl⟩
      · exact ks_goodIn hcd w h
    have hrun : vx_Run p l e R s m args below meth c H locs cells slots (S1.1 - S.1) (S1.2.1 - S.2.1) (F0 m pc ls (st.map (ks_v G))) (rest.map (ks_v G)) (fun _ _ _ => False) (ks_XC G v1 S1) (ks_A G) := vx_runV (C := r.1) (b := ks_ad G b) (As := As.map (ks_v G)) ⟨CC.1, CC.2.1, CC.2.2.2.1, CC.2.2.2.2.1, hts⟩ hM (cwV n hts hTs rfl rfl rfl ⟨hr, hd0⟩ ⟨CC.2.2.2.2.2.2.2.2.2.1, by have := CC.2.2.2.2.2.2.2.2.2.2; show 8 + (M'.2.2.1 + 11) + 200 * d ≤ _; omega⟩)
      ⟨kt_blind _, ⟨cellV, by rw [b2]; exact g1, by rw [g3]; rfl, by rw [g2]; exact hfc⟩, fun U hU hW => ⟨rfl, by rw [hU]; exact hH.moved hW.alike, hK.warm hW, hyp.2.2.1.at hS0 hU hW⟩⟩ rfl (by rw [List.length_map]; exact hn) hl.1 (by rw [hst]; simp [ks_v]) (lv_room (by rw [ks_cat]; exact hsm)) hd ⟨by omega, by omega⟩
    intro T hT X
    rcases hrun T hT X with ⟨v', st₀, t, T', L, e0, X', hL', e1, e2, hF, stp⟩ | ⟨q, st₀, t, T', L, E', ce, e0, X', hL', e1, e2, ⟨⟨k', hk', hE'⟩, hH1, hK1, hF⟩, hce, hcv, hcl, stp⟩
    · exact hF.elim
    · have ek : k' = k9 := by
        have a1 : k' < 4 := (List.getElem?_eq_some_iff.mp hE').1
        have a2 : k9 < 4 := (List.getElem?_eq_some_iff.mp hE).1
        rw [hv1] at hk'
        have a3 : nI k9 = nI k' := by injection hk' with h; injection h
        have a4 : ∀ i, i < 4 → ∀ j, j < 4 → nI i = nI j → i = j := by decide
        exact (a4 k9 a2 k' a1 a3).symm
      subst ek
      have eE : E' = E := Option.some.inj (hE'.symm.trans hE)
      subst eE
      obtain ⟨z1, z2, z3⟩ := vx_keep e0 e1 hS0 (fun q _ h => h) (fun q h => h) hL' hF
      have hal : s.vm.Alike t.vm := by rw [← e2]; exact X'.warmed.alike
      have hH2 : ks_H G S1 s T'.heap := by rw [e1]; exact hH1.moved hal.symm
      have hw : W p l e R s m args below meth c T'.heap (locs ++ L) (cells + (S1.1 - S.1)) (slots + (S1.2.1 - S.2.1)) (fun t => ks_HL l G hh s c → MQ below (ks_Q G v S') args s R.cells R.slots (ks_A G) t) (F0 m x.handlerPc ls [.ref q]) := has p e R s m args below meth c T'.heap (locs ++ L) _ _ ls _ q CC hl (fun ls' hl' => hV p e R s m args below meth c T'.heap (locs ++ L) (cells + (S1.1 - S.1)) (slots + (S1.2.1 - S.2.1)) ls' CC hH2 z3 hl' (by omega) (by omega))
      obtain ⟨t2, a1, b1⟩ := vx_catch (pc := pc) (ls := ls) (rest := rest.map (ks_v G)) (own := M.1) (name := E') (E := E') (ce := ce) (q := q) CC.2.2.2.2.1 pre x suf (hyp.2.1.trans hhs) (fun z hz => by
        obtain ⟨y1, nm, y2, y3⟩ := hpass z hz
        exact Or.inr ⟨y1, nm, CC.2.2.2.2.2.1 _ y2 rfl, y3 s hyp.2.2.2.1⟩) hx h0 (CC.2.2.2.2.2.1 _ hlink rfl) (va_tabs (thw_on rfl) rfl (hyp.2.2.1.2.2 _ hcast rfl)) (by rw [e1]; exact hce) hcv hcl hw T' rfl X'
      exact ⟨t2, stp.trans a1, b1⟩
  · intro T hT X
    exact ⟨_, Steps.refl _, fun h => absurd h hyp⟩
def kl_ws (y : MethodName) (M : ks_M) (hh : List (Nat × Nat × Nat × Nat)) : List Cond := Cond.codeWith y M.2.1 M.2.2.1 M.2.2.2.1 hh :: lw_tbl.filter goodWord
/-- the contract of a method that catches -/
def kl_T (l : Launch) (G : ks_G) (y : MethodName) (M : ks_M) (hh : List (Nat × Nat × Nat × Nat)) (d : Nat) (As : List Value) (S : ks_S) (v : Option Value) (S' : ks_S) : Prop :=
  (S.1 ≤ S'.1 ∧ S.2.1 ≤ S'.2.1) ∧
  Met l y (kl_ws y M hh) (ks_rm d S S') (va_Pc (As.map (ks_v G)) (fun U => ks_H G S U U.heap ∧ ks_K G U ∧ ks_U G U U.heap ∧ ks_N U)) (ks_Q G v S') (S'.1 - S.1) (S'.2.1 - S.2.1) (ks_A G)
def kl_P (l : Launch) (G : ks_G) (y : MethodName) (M : ks_M) (hh : List (Nat × Nat × Nat × Nat)) (d : Nat) (As : List Value) (S : ks_S) (P : Option Value → ks_S → Prop) : Prop :=
  ∃ (v : Option Value) (S' : ks_S), kl_T l G y M hh d As S v S' ∧ P v S'
theorem kl_blind {G : ks_G} {S : ks_S} (av : List Value) : FrameBlind (va_Pc av (fun U => ks_H G S U U.heap ∧ ks_K G U ∧ ks_U G U U.heap ∧ ks_N U)) := fun a U g mk h =>
  ⟨h.1, ks_H.moved (u := U) (U := U.calling g mk a) (Vm.Alike.refl U.vm) h.2.1, ks_K.warm (s := U) (U := U.calling g mk a) (State.WarmedH.refl U) h.2.2.1, ks_U.same (u := U) (U := U.calling g mk a) rfl rfl h.2.2.2.1, ks_N.moved (u := U) (U := U.calling g mk a) (Vm.Alike.refl U.vm) h.2.2.2.2⟩
theorem kl_of {h9 : List (Nat × Nat × Nat × Nat)} (htr : l.stackTraces = false) (hpl : plainName y.cls = true) (ho : y.cls = M.1) (hn : y.name = M.2.2.2.2) (hlen : (lg_sl As).length ≤ M.2.2.1) (h : ks_L l G (h9, 0, fun _ => 0) M d 0 (lv_args 0 As) [] S P) : kl_P l G y M h9 d As S P := by
  obtain ⟨v, S', ⟨hm, hV⟩, hP⟩ := h
  refine ⟨v, S', ⟨hm, ?_⟩, hP⟩
  refine Jvm.Free.Fmt.of_bodyTbl (code := M.2.1) (maxLocals := M.2.2.1) (ret := M.2.2.2.1) (handlers := h9) hpl (fun args s h => atoms_spec (ws := kl_ws y M h9) h _ List.mem_cons_self) ?_
  intro p e s m args below meth c s₁ B hml htab hv _
  obtain ⟨rfl, hH, hK, hU, hN⟩ := hv
  have hts := atoms_spec (ws := kl_ws y M h9) B.pre
  have hown : s.vm.findClass y.cls = some m.cls := findClass_of_methodNamed B.named
  have hnm : meth.name = y.name := (name_of_methodNamed B.named B.method).1
  have hl := lv_entry (As.map (ks_v G)) (n := M.2.2.1) (by rw [ks_sl_len]; exact hlen)
  rw [ks_args_map] at hl
  rw [lg_entry_eq]
  have hh0 : s₁.heap = s.heap := by rw [B.state]; rfl
  obtain ⟨t, a1, b1⟩ := hV p e _ s m _ below meth c s.heap [] 0 0 _ ⟨B.exec, B.bytes, B.returns, hml, by rw [← ho]; exact hown, fun w hw hg => hts w (List.mem_cons_of_mem _ (List.mem_filter.mpr ⟨hw, hg⟩)), B.notSynchronized, hnm.trans hn, hK, Nat.le_refl _, Nat.le_refl _⟩ hH va_S.rf hl (Nat.zero_add _) (Nat.zero_add _) s₁ hh0 (Stand.of_body B)
  obtain ⟨o, c1, c2, c3, c4⟩ := b1 ⟨htr, htab, hU, hN, fun h => absurd rfl h⟩
  exact ⟨t, o, a1, c1, c2, c3, c4⟩
theorem kl_back {h9 : List (Nat × Nat × Nat × Nat)} {R : Room} {p : Program} {e : Env} {below : List Frame} {s : State} {sargs : Array Value} {len W9 : Nat} {ws : List Cond} {rm : Room} {Pc : Array Value → State → Prop} {Qc : Array Value → State → Outcome → State → Prop} {mc ms : Nat} {free : Addr → Prop} {bytes : ByteArray} {maxL : Nat} {ret : Option FieldType}
    (hM : Met l y ws rm Pc Qc mc ms free) (hblind : FrameBlind Pc) (hrc : rm.cells = mc) (hrs : rm.slots = ms)
    (hframes : rm.frames + 1 ≤ R.frames) (hlocals : W9 + (maxL + 11) + rm.locals ≤ R.locals)
    (hws : ∀ w ∈ ws, ∀ a' U, s.WarmedH U.vm → w.before a' U = true) (hcode : Cond.codeWith y bytes maxL ret h9 ∈ ws) (hinit : ∀ a' U, s.WarmedH U.vm → (Cond.initialized y.cls).before a' U = true) :
    Back l R p e below s sargs y len W9 (PreOf R mc ms Pc) (PostOf Qc mc ms free) := by
  refine Back.of_freeWith (handlers := h9) (S := headSpec ws rm) (P := Pc) (K := fun _ _ _ _ _ => True) (Q := fun a st o t => Qc a st o t ∧ ∃ L, FrameEnd st o t L mc ms ∧ ∀ q ∈ L, free q.base) (bytes := bytes) (maxL := maxL) (ret := ret)
    (E := fun a st o t L k n => k = mc ∧ n = ms ∧ ∀ q ∈ L, free q.base) hM hframes hlocals ?_ ?_ (fun _ _ _ _ _ _ _ _ _ => trivial) ?_ ?_
  · intro m meth c A a X hp
    exact ⟨atoms_intro fun w hw => hws w hw _ _ X.warmed, hws _ hcode _ _ X.warmed, hinit _ _ X.warmed, by rw [show (headSpec ws rm).room.cells = mc from hrc]; exact hp.1, by rw [show (headSpec ws rm).room.slots = ms from hrs]; exact hp.2.1⟩
  · intro m meth c A a g mk X hp
    exact hblind _ _ _ _ hp.2.2
  · intro a st o t ⟨hq, L, hF, hL⟩
    exact ⟨L, mc, ms, hF, rfl, rfl, hL⟩
  · intro m meth c A a g mk v t L k n X hp hq hF ⟨e1, e2, hL⟩
    subst e1; subst e2
    exact ⟨g, mk, t, L, rfl, rfl, hq.1, rfl, hL, rfl, rfl⟩
/-- invokestatic of a method that catches -/
theorem kl_callH {ix n : Nat} {h9 : List (Nat × Nat × Nat × Nat)} (hM : kl_P l G y M' h9 d As S P1) (hlk : Cond.methodLink M.1 ix y ∈ lw_tbl) (hstc : Cond.static y ∈ lw_tbl) (hini : Cond.initialized y.cls ∈ lw_tbl) (hcd : Cond.codeWith y M'.2.1 M'.2.2.1 M'.2.2.2.1 h9 ∈ lw_tbl)
    (hd0 : y.cls ≠ "java/lang/invoke/MethodHandle" ∧ y.cls ≠ "java/lang/invoke/VarHandle" ∧ (parseMethodDescriptor y.desc).map (fun d => d.parameters.length) = some n) (hn : As.length = n) (hL : M'.2.2.1 ≤ 180) (hsm : (rest.map fun v => v.category).sum ≤ 8)
    (hst : st = As.reverse ++ rest) (hd : decode M.2.1 pc = .ok (.invokestatic ix, 3)) (hp : pc + 3 = pc') (k : ∀ v1 S1, P1 v1 S1 → ks_L l G hh M (d + 1) pc' lv (v1.toList ++ rest) S1 P) : ks_L l G hh M (d + 1) pc lv st S P := by
  subst hp
  obtain ⟨v1, S1, ⟨hm1, hM⟩, hP1⟩ := hM
  obtain ⟨v, S', ⟨hm, hV⟩, hP⟩ := k v1 S1 hP1
  refine ⟨v, S', ⟨⟨Nat.le_trans hm1.1 hm.1, Nat.le_trans hm1.2 hm.2⟩, fun p e R s m args below meth c H locs cells slots ls CC hH hS0 hl h1 h2 => ?_⟩, hP⟩
  by_cases hyp : ks_HL l G hh s c
  · have hK := CC.2.2.2.2.2.2.2.2.1
    have hfr := CC.2.2.2.2.2.2.2.2.2.1
    have hlo := CC.2.2.2.2.2.2.2.2.2.2
    have hws : ∀ w ∈ kl_ws y M' h9, ∀ a' U, s.WarmedH U.vm → w.before a' U = true := fun w hw a' U hW => by
      rcases List.mem_cons.mp hw with rfl | hw
      · exact word_at (args := args) hW (Or.inl rfl) (CC.2.2.2.2.2.1 _ hcd rfl)
      · exact word_at (args := args) hW (good_of_word (List.mem_filter.mp hw).2) (CC.2.2.2.2.2.1 w (List.mem_filter.mp hw).1 (List.mem_filter.mp hw).2)
    have hbk : Back l R p e below s args y 3 8 (PreOf R (S1.1 - S.1) (S1.2.1 - S.2.1) (va_Pc (As.map (ks_v G)) (fun U => ks_H G S U U.heap ∧ ks_K G U ∧ ks_U G U U.heap ∧ ks_N U))) (PostOf (ks_Q G v1 S1) (S1.1 - S.1) (S1.2.1 - S.2.1) (ks_A G)) := kl_back (bytes := M'.2.1) (maxL := M'.2.2.1) (ret := M'.2.2.2.1) hM (kl_blind _) rfl rfl hfr (by show 8 + (M'.2.2.1 + 11) + 200 * d ≤ _; omega) hws List.mem_cons_self (fun a' U hW => word_at (args := args) hW (Or.inl rfl) (CC.2.2.2.2.2.1 _ hini rfl))
    intro T hT X
    obtain ⟨v', vm₁, ⟨U', l2, c2, s2⟩, hW₁, X', ⟨g', mk, t, L, e1, e2, ⟨hv, hH1, hK1, hz, hk⟩, f1, hL', f2, f3⟩, stp⟩ := Jvm.RoadKit.callSH X CC.1 (bytes := M'.2.1) (maxL := M'.2.2.1) (ret := M'.2.2.2.1) (hs := h9) CC.2.2.2.2.1 (CC.2.2.2.2.2.1 _ hlk rfl) (CC.2.2.2.2.2.1 _ hstc rfl) (CC.2.2.2.2.2.1 _ hini rfl) (CC.2.2.2.2.2.1 _ hcd rfl) ⟨hd0.1, hd0.2.1⟩ hbk (g := F0 m pc ls (st.map (ks_v G))) rfl (hl.1.trans CC.2.2.2.1.symm) (argsL := As.map (ks_v G)) (rest := rest.map (ks_v G)) (fun sig hsig => by
        have := hd0.2.2
        rw [hsig] at this
        rw [List.length_map, hn]
        exact (Option.some.inj this).symm) (by show st.map (ks_v G) = _; rw [hst]; simp) (lv_room (by rw [ks_cat]; exact hsm)) (by rw [CC.2.1]; exact hd)
      (fun vm₁ hW => ⟨by show cells + _ ≤ _; omega, by show slots + _ ≤ _; omega, rfl, by show ks_H G S (T.setVm vm₁) T.heap; rw [hT]; exact hH.moved hW.alike, hK.warm hW, hyp.2.2.1.at hS0 hT hW, hyp.2.2.2.1.moved hW.alike⟩)
    cases hv
    dsimp only [Pt.U, Pt.locs, Pt.cells, Pt.slots] at X' e1 e2 f1 f2 f3 stp
    subst f1; subst f2; subst f3
    change T.heap.size ≤ t.heap.size at hz
    change ∀ q : Nat, q < T.heap.size → ¬ ks_A G q → t.heap[q]? = T.heap[q]? at hk
    rw [hT] at hz hk
    have hal : s.vm.Alike t.vm := by rw [← e2]; exact X'.warmed.alike
    have hH2 : ks_H G S1 s U'.heap := by rw [e1]; exact hH1.moved hal.symm
    have hS2 : va_S (ks_A G) s.heap U'.heap (locs ++ L) := ⟨Nat.le_trans hS0.1 (by rw [e1]; exact hz), fun q g1 g2 => by
        rw [e1, hk q (Nat.lt_of_lt_of_le g1 hS0.1) g2]
        exact hS0.2.1 q g1 g2, fun q hq => by
        rcases List.mem_append.mp hq with h | h
        · exact hS0.2.2 q h
        · exact hL' q h⟩
    have hw := hV p e R s m args below meth c U'.heap (locs ++ L) (cells + (S1.1 - S.1)) (slots + (S1.2.1 - S.2.1)) ls CC hH2 hS2 hl (by omega) (by omega)
    have e5 : (v1.toList ++ rest).map (ks_v G) = (v1.map (ks_v G)).toList ++ rest.map (ks_v G) := by cases v1 <;> rfl
    rw [e5] at hw
    obtain ⟨t2, a1, b1⟩ := hw U' rfl X'
    exact ⟨t2, stp t2 a1, b1⟩
  · intro T hT X
    exact ⟨_, Steps.refl _, fun h => absurd h hyp⟩
/-- the script -/
theorem kl_scA {L i : Nat} {xs : Nat → Int32} {ix : Int32} (hsc : hh.2 = (L + 1, xs)) (hix : ix = nI i) (hi : i < L) (hL : L < 2 ^ 31) (hd : decode M.2.1 pc = .ok (.iaload, 1)) (hp : pc + 1 = pc') (k : ks_L l G hh M d pc' lv (.int (xs i) :: st) S P) : ks_L l G hh M d pc lv (.int ix :: .ref ks_sc :: st) S P := by
  subst hp
  subst hix
  obtain ⟨v, S', ⟨hm, hV⟩, hP⟩ := k
  refine ⟨v, S', ⟨hm, fun p e R s m args below meth c H locs cells slots ls CC hH hS0 hl h1 h2 => ?_⟩, hP⟩
  by_cases hyp : ks_HL l G hh s c
  · have hX := hyp.2.2.2.2 (by rw [hsc]; exact Nat.succ_ne_zero _)
    rw [hsc] at hX
    have e1 : ks_ad G ks_sc = G.2.2.2 1000 := ks_ad_sc G
    have hin : vp_in (nI i) L := fun h => by
      rcases h with h | h
      · exact nI_pos (by omega) h
      · rw [nI_clamp (by omega)] at h; omega
    have hw := hV p e R s m args below meth c H locs cells slots ls CC hH hS0 hl h1 h2
    have e2 : List.map (ks_v G) (.int (nI i) :: .ref ks_sc :: st) = .int (nI i) :: .ref (G.2.2.2 1000) :: st.map (ks_v G) := by
      show (Value.int (nI i) :: Value.ref (ks_ad G ks_sc) :: _) = _
      rw [e1]
    rw [e2]
    refine va_sld CC.1 CC.2.1 hX.1 hX.2.1 hX.2.2 hS0 hin hd ?_
    rw [nI_clamp (by omega)]
    exact hw
  · intro T hT X
    exact ⟨_, Steps.refl _, fun h => absurd h hyp⟩
theorem kl_scL {L : Nat} {xs : Nat → Int32} (hsc : hh.2 = (L + 1, xs)) (hd : decode M.2.1 pc = .ok (.arraylength, 1)) (hp : pc + 1 = pc') (k : ks_L l G hh M d pc' lv (.int (nI L) :: st) S P) : ks_L l G hh M d pc lv (.ref ks_sc :: st) S P := by
  subst hp
  obtain ⟨v, S', ⟨hm, hV⟩, hP⟩ := k
  refine ⟨v, S', ⟨hm, fun p e R s m args below meth c H locs cells slots ls CC hH hS0 hl h1 h2 => ?_⟩, hP⟩
  by_cases hyp : ks_HL l G hh s c
  · have hX := hyp.2.2.2.2 (by rw [hsc]; exact Nat.succ_ne_zero _)
    rw [hsc] at hX
    have e2 : List.map (ks_v G) (.ref ks_sc :: st) = .ref (G.2.2.2 1000) :: st.map (ks_v G) := by
      show (Value.ref (ks_ad G ks_sc) :: _) = _
      rw [ks_ad_sc G]
    rw [e2]
    exact va_slen CC.1 CC.2.1 hX.1 hX.2.1 hX.2.2 hS0 hd (hV p e R s m args below meth c H locs cells slots ls CC hH hS0 hl h1 h2)
  · intro T hT X
    exact ⟨_, Steps.refl _, fun h => absurd h hyp⟩
end KL2
