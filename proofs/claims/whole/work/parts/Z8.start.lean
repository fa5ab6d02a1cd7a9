/-! THE CLAIM out of the law's walk -/
def R_law : String := "CoinJudgeLaw"
def lw_P (b : Addr) (xs : List Int32) (args : Array Value) (s : State) : Prop := args = #[.ref b] ∧ s.IntsAt b xs ∧ xs.length ≤ 3072 ∧ (Jvm.Cond.and given_1 narrow_1).before args s = true
def lw_Q (_ : Array Value) (s : State) (o : Outcome) (t : State) : Prop := o = .returned (some (.int 1)) ∧ Framed s o t [] 601024 7293034
def lw_Z (below : List Frame) (a : Array Value) (s : State) : State → Prop := fun t => ∃ o, t.status = .running ∧ Ended t below o ∧ lw_Q a s o t
/-- what holds at the law's entry -/
def lw_At (p : Program) (s : State) (m : MethodId) (meth : Method) (c : Code) (b L : Nat) (xs : Nat → Int32) : Prop :=
  p.tables.exec = Jvm.exec ∧ c.code = code ∧ meth.sig.returnType = ret ∧ c.maxLocals = 8 ∧ s.vm.findClass R_law = some m.cls ∧ (∀ w ∈ lw_tbl, w.before #[Value.ref b] s = true) ∧ va_X b L xs s s.heap ∧ b < s.heap.size ∧ meth.locks = false ∧ (Jvm.Cond.and given_1 narrow_1).before #[Value.ref b] s = true ∧ meth.name = "law" ∧ c.exceptionTable.toList = tableOf []
def enS : ks_S := (0, 0, fun a => if ks_B ≤ a then (ks_stat[a - ks_B]?).map (fun q => kI q.2.2.length (ks_row q.2.2)) else none)
theorem enS_st : ks_stOK enS := fun i q hq => by
  show (if ks_B ≤ ks_B + i then (ks_stat[ks_B + i - ks_B]?).map (fun q => kI q.2.2.length (ks_row q.2.2)) else none) = _
  rw [if_pos (Nat.le_add_right _ _), Nat.add_sub_cancel_left, hq]
  rfl
set_option maxHeartbeats 1600000 in
theorem whole_start {p : Program} {e : Env} {s : State} {m : MethodId} {below : List Frame} {meth : Method} {c : Code} (l : Launch) (htr : l.stackTraces = false) {b L : Nat} {xs : Nat → Int32} (hL : L ≤ 3072) (C0 : lw_At p s m meth c b L xs) : W p l e room_1 s m #[Value.ref b] below meth c s.heap [] 0 0 (lw_Z below #[Value.ref b] s) (entryFrame m ([Value.ref b] : List Value).toArray 8) := by
  obtain ⟨hx, hb, hr, hml, hown, hts, hX, hbl, hlocks, hgv, hnm, htab⟩ := id C0
  obtain ⟨G0, hG0⟩ := en_K hts
  obtain ⟨ac, hac⟩ := en_T hts
  have hst : ∀ i : Nat, ∃ t : Nat, ∀ q, ks_stat[i]? = some q → va_Z q.1 q.2.1 "[I" (.ref t) (fun a => s.heap.size ≤ a) s s.heap ∧ va_T .int t q.2.2.length (fun j => .int (ks_row q.2.2 j)) (fun a => s.heap.size ≤ a) s s.heap := fun i => by
    cases e9 : ks_stat[i]? with
    | none => exact ⟨0, fun q hq => by cases hq⟩
    | some q =>
      obtain ⟨t, ht⟩ := en_st hts hgv i q e9
      exact ⟨t, fun q2 h2 => by cases h2; exact ht⟩
  obtain ⟨ad, had⟩ : ∃ ad : Nat → Nat, ad 1000 = b ∧ ∀ i q, ks_stat[i]? = some q → va_Z q.1 q.2.1 "[I" (.ref (ad i)) (fun a => s.heap.size ≤ a) s s.heap ∧ va_T .int (ad i) q.2.2.length (fun j => .int (ks_row q.2.2 j)) (fun a => s.heap.size ≤ a) s s.heap := by
    refine ⟨fun i => if i = 1000 then b else Classical.choose (hst i), if_pos rfl, fun i q hq => ?_⟩
    have hi : i < 12 := (List.getElem?_eq_some_iff.mp hq).1
    have h9 := Classical.choose_spec (hst i) q hq
    simpa only [if_neg (show ¬ i = 1000 by omega)] using h9
  obtain ⟨G, eG⟩ : ∃ G : ks_G, G = (G0, ac, s.heap.size, ad) := ⟨_, rfl⟩
  have hA : ∀ a : Nat, a < s.heap.size → ¬ s.heap.size ≤ a := fun a h => Nat.not_le.mpr h
  have hK : ks_K G s := by
    rw [eG]
    obtain ⟨a0, a1, a2, a3, a4, a5, a6, a7⟩ := en_aw
    exact ⟨⟨hG0, hac⟩, fun w hw hn => nest_nw hn (hts w hw), va_AO.of (hts _ a5), va_AO.of (hts _ a6), va_AO.of (hts _ a7)⟩
  have hH : ks_H G enS s s.heap := by
    rw [eG]
    refine ⟨rfl, Nat.zero_le _, fun a e9 ha => ?_, fun i q hq => had.2 i q hq⟩
    change (if ks_B ≤ a then (ks_stat[a - ks_B]?).map (fun q => kI q.2.2.length (ks_row q.2.2)) else none) = some e9 at ha
    by_cases h1 : ks_B ≤ a
    · rw [if_pos h1] at ha
      obtain ⟨q, hq, rfl⟩ := Option.map_eq_some_iff.mp ha
      exact Or.inr ⟨a - ks_B, q, by omega, hq, rfl⟩
    · rw [if_neg h1] at ha
      cases ha
  have hs := flat_of_before _ hgv
  obtain ⟨x0, x1, x2, x3, x4, x5⟩ := en_fx
  have hU : ks_U G s s.heap := by
    rw [eG]
    exact ⟨vx_Zqof (hts _ en_tw.1) (hts _ en_tw.2.2) (hs _ (List.mem_of_getElem? x0)) hA, vx_Zqof (hts _ en_tw.2.1) (hts _ en_tw.2.2) (hs _ (List.mem_of_getElem? x1)) hA, fun w hw h => va_Nw.of (thw_on h) (hts w hw)⟩
  have hN : ks_N s := ⟨va_Nc.of (hs _ (List.mem_of_getElem? x2)), va_Nc.of (hs _ (List.mem_of_getElem? x3)), va_Nc.of (hs _ (List.mem_of_getElem? x4)), va_Nc.of (hs _ (List.mem_of_getElem? x5))⟩
  have hSC : ks_SC G ([], L + 1, xs) s := fun _ => by
    rw [eG]
    show va_X (ad 1000) (L + 1 - 1) xs s s.heap ∧ ad 1000 < s.heap.size ∧ ¬ s.heap.size ≤ ad 1000
    rw [had.1, Nat.add_sub_cancel]
    exact ⟨hX, hbl, Nat.not_le.mpr hbl⟩
  obtain ⟨v, S', ⟨hm, hV⟩, hP⟩ := l_start (l := l) (G := G) (hh := ([], L + 1, xs)) (K := kkK) (L := L) (xs := xs) (S := enS) (P9 := fun z S1 => z = some (.int (nI 1)) ∧ S1.1 ≤ 601024 ∧ S1.2.1 ≤ 7293034) htr kk_A kk_B kk_C lw_m (fun o c S hc hI => op_judge htr hc hI) kk_0 rfl hL (fun o c S hc hI => by
    obtain ⟨n, best, Bc, Br, C, R, t, q, dt, rs, Ds, D, T, V, F, hC, hR, hr, -, r1, r2⟩ := hI
    obtain ⟨cc, tk, hX9⟩ := hC.2.2.2.2.1
    have hn60 : n ≤ 60 := hX9.2.2.2
    exact ⟨rfl, by omega, by omega⟩) rfl (by show 0 ≤ 100000; decide) enS_st
  obtain ⟨ev, q1, q2⟩ := hP
  have hl := lv_entry ([.ref b]) (n := 8) (Nat.le_of_ble_eq_true rfl)
  rw [lg_entry_eq]
  generalize (lg_sl ([.ref b]) ++ List.replicate (8 - (lg_sl ([.ref b])).length) Slot.unset).toArray = ls at hl ⊢
  have hsc : ks_ad G ks_sc = b := by
    unfold ks_ad ks_sc
    rw [if_neg (by omega), eG]
    show ad (ks_B + 1000 - ks_B) = b
    rw [Nat.add_sub_cancel_left]
    exact had.1
  have hl2 : lv_has ls 8 (([(0, .ref ks_sc)] : List (Nat × Value)).map (ks_q G)) := by
    show lv_has ls 8 [(0, .ref (ks_ad G ks_sc))]
    rw [hsc]
    exact hl
  have k0 : enS.1 = 0 := rfl
  have k1 : enS.2.1 = 0 := rfl
  have w := hV p e room_1 s m #[Value.ref b] below meth c s.heap [] (601024 - S'.1) (7293034 - S'.2.1) ls ⟨hx, hb, hr, hml, hown, fun w hw _ => hts w hw, hlocks, hnm, hK, by decide, by decide⟩ hH va_S.rf hl2 (by rw [k0]; show 601024 - S'.1 + (S'.1 - 0) = 601024; omega) (by rw [k1]; show 7293034 - S'.2.1 + (S'.2.1 - 0) = 7293034; omega)
  refine W.widen (k := 601024 - S'.1) (n := 7293034 - S'.2.1) (Nat.zero_le _) (Nat.zero_le _) (fun T hT X => ?_)
  obtain ⟨t, s1, s2⟩ := w T hT X
  obtain ⟨o, o1, o2, ⟨o3, -⟩, Ls, ⟨f1, f2, f3⟩, hLs⟩ := s2 ⟨htr, htab, hU, hN, hSC⟩
  rw [ev] at o3
  refine ⟨t, s1, o, o1, o2, o3, f1, f2, f3.weaken (fun y hy hlt => ?_) (Nat.le_refl _) (Nat.le_refl _)⟩
  have h9 := hLs y hy
  rw [eG] at h9
  exact absurd hlt (Nat.not_lt.mpr h9)
