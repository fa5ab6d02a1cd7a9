/-! ROWS OF THE HEAP -/
def ks_set (S : ks_S) (a : Nat) (e : ks_E) : ks_S := (S.1, S.2.1, va_up S.2.2 a (some e))
def ks_add (S : ks_S) (n : Nat) (e : ks_E) : ks_S := (S.1 + 1, S.2.1 + n, va_up S.2.2 S.1 (some e))
theorem ks_set_same (S : ks_S) (a : Nat) (e : ks_E) : (ks_set S a e).2.2 a = some e := va_up_self _ _ _
theorem ks_set_ne (S : ks_S) {a b : Nat} (e : ks_E) (h : b ≠ a) : (ks_set S a e).2.2 b = S.2.2 b := va_up_ne _ _ h
theorem ks_set_set (S : ks_S) (a : Nat) (e e' : ks_E) : ks_set (ks_set S a e) a e' = ks_set S a e' := by
  unfold ks_set
  congr 2
  exact bx_uu _ _ _ _
theorem ks_set_comm (S : ks_S) {a b : Nat} (e e' : ks_E) (h : a ≠ b) : ks_set (ks_set S a e) b e' = ks_set (ks_set S b e') a e := by
  unfold ks_set
  congr 2
  funext j
  by_cases h1 : j = a
  · subst h1
    simp [va_up, h]
  · by_cases h2 : j = b
    · subst h2
      simp [va_up, h1]
    · simp [va_up, h1, h2]
theorem ks_set_id (S : ks_S) {a : Nat} {e : ks_E} (h : S.2.2 a = some e) : ks_set S a e = S := by
  obtain ⟨n, m, f⟩ := S
  unfold ks_set
  congr 2
  funext j
  by_cases h1 : j = a
  · subst h1
    simp only [va_up, if_pos]
    exact h.symm
  · simp [va_up, h1]
theorem ks_add_new (S : ks_S) (n : Nat) (e : ks_E) : (ks_add S n e).2.2 S.1 = some e := va_up_self _ _ _
theorem ks_add_ne (S : ks_S) {b : Nat} (n : Nat) (e : ks_E) (h : b ≠ S.1) : (ks_add S n e).2.2 b = S.2.2 b := va_up_ne _ _ h
theorem ks_ad_lt {G : ks_G} {a : Nat} (h : a < ks_B) : ks_ad G a = G.2.2.1 + a := if_pos h
theorem ks_lt {G : ks_G} {S : ks_S} {U : State} {H : Heap} {a ci : Nat} {fs : List Value} (h : ks_H G S U H) (hS : S.2.2 a = some (.inr (ci, fs))) : a < S.1 ∧ ks_ad G a = G.2.2.1 + a ∧ va_at G.1 vwCl (G.2.2.1 + a, .inr (ci, fs.map (ks_v G))) H := by
  rcases h.2.2.1 a _ hS with ⟨h1, h2⟩ | ⟨i, q, -, -, h3⟩
  · exact ⟨h1, ks_ad_lt (Nat.lt_of_lt_of_le h1 h.2.1), h2⟩
  · cases h3
theorem ks_ltA {G : ks_G} {S : ks_S} {U : State} {H : Heap} {a t : Nat} {A : vp_A} (h : ks_H G S U H) (hS : S.2.2 a = some (.inl (t, A))) (hb : a < ks_B) : a < S.1 ∧ ks_ad G a = G.2.2.1 + a ∧ va_at G.1 vwCl (G.2.2.1 + a, .inl (G.2.1 t, ks_a G A)) H := by
  rcases h.2.2.1 a _ hS with ⟨h1, h2⟩ | ⟨i, q, h3, -, -⟩
  · exact ⟨h1, ks_ad_lt (Nat.lt_of_lt_of_le h1 h.2.1), h2⟩
  · omega
theorem ks_ltT {G : ks_G} {S : ks_S} {U : State} {H : Heap} {a t : Nat} {A : vp_A} (h : ks_H G S U H) (hS : S.2.2 a = some (.inl (t, A))) (ht : t ≠ 1) : a < S.1 ∧ ks_ad G a = G.2.2.1 + a ∧ va_at G.1 vwCl (G.2.2.1 + a, .inl (G.2.1 t, ks_a G A)) H := by
  rcases h.2.2.1 a _ hS with ⟨h1, h2⟩ | ⟨i, q, -, -, h3⟩
  · exact ⟨h1, ks_ad_lt (Nat.lt_of_lt_of_le h1 h.2.1), h2⟩
  · cases h3
    exact absurd rfl ht
/-- a cell is written -/
theorem ks_H.set {G : ks_G} {S : ks_S} {U : State} {H H1 : Heap} {a : Nat} {e' : ks_E} (h : ks_H G S U H) (hlt : a < S.1) (z : H1.size = H.size) (oq : ∀ q : Nat, q ≠ G.2.2.1 + a → H1[q]? = H[q]?) (hat : va_at G.1 vwCl (G.2.2.1 + a, ks_e G e') H1) : ks_H G (ks_set S a e') U H1 := by
  refine ⟨z.trans h.1, h.2.1, fun b e hb => ?_, h.2.2.2.kept (fun q _ hq => oq q (fun e => hq (by rw [e]; exact Nat.le_add_right _ _)))⟩
  by_cases hba : b = a
  · subst hba
    rw [ks_set_same] at hb
    cases hb
    exact Or.inl ⟨hlt, hat⟩
  · rw [ks_set_ne _ _ hba] at hb
    rcases h.2.2.1 b e hb with ⟨h1, h2⟩ | h1
    · exact Or.inl ⟨h1, h2.kept (oq _ (fun e => hba (by simpa using e)))⟩
    · exact Or.inr h1
/-- a cell is made -/
theorem ks_H.add {G : ks_G} {S : ks_S} {U : State} {H H1 : Heap} {n : Nat} {e' : ks_E} (h : ks_H G S U H) (hB : S.1 < ks_B) (z : H1.size = H.size + 1) (oq : ∀ q : Nat, q < H.size → H1[q]? = H[q]?) (hat : va_at G.1 vwCl (G.2.2.1 + S.1, ks_e G e') H1) : ks_H G (ks_add S n e') U H1 := by
  have hz := h.1
  refine ⟨by rw [z, hz]; exact Nat.add_assoc _ _ _, hB, fun b e hb => ?_, h.2.2.2.kept (fun q hq _ => oq q hq)⟩
  by_cases hba : b = S.1
  · subst hba
    rw [ks_add_new] at hb
    cases hb
    exact Or.inl ⟨Nat.lt_succ_self _, hat⟩
  · rw [ks_add_ne _ _ _ hba] at hb
    rcases h.2.2.1 b e hb with ⟨h1, h2⟩ | h1
    · exact Or.inl ⟨Nat.lt_succ_of_lt h1, h2.kept (oq _ (by rw [hz]; omega))⟩
    · exact Or.inr h1
section KsH
variable {l : Launch} {G : ks_G} {M : ks_M} {d pc pc' : Nat} {lv : List (Nat × Value)} {st st' : List Value} {S S1 : ks_S} {P : Option Value → ks_S → Prop}
theorem ks_read (h : ∀ (p : Program) (e : Env) (R : Room) (s : State) (m : MethodId) (args : Array Value) (below : List Frame) (meth : Method) (c : Code) (H : Heap) (locs : List Loc) (cells slots : Nat) (ls : Array Slot) (Q : State → Prop),
      ks_C G M d p R s m args meth c → ks_H G S s H → W p l e R s m args below meth c H locs cells slots Q (F0 m pc' ls (st'.map (ks_v G))) → W p l e R s m args below meth c H locs cells slots Q (F0 m pc ls (st.map (ks_v G))))
    (k : ks_X l G M d pc' lv st' S P) : ks_X l G M d pc lv st S P := by
  obtain ⟨v, S', ⟨hm, hV⟩, hP⟩ := k
  exact ⟨v, S', ⟨hm, fun p e R s m args below meth c H locs cells slots ls C hH hS hl h1 h2 => h p e R s m args below meth c H locs cells slots ls _ C hH (hV p e R s m args below meth c H locs cells slots ls C hH hS hl h1 h2)⟩, hP⟩
theorem ks_write (e1 : S1.1 = S.1) (e2 : S1.2.1 = S.2.1) (h : ∀ (p : Program) (e : Env) (R : Room) (s : State) (m : MethodId) (args : Array Value) (below : List Frame) (meth : Method) (c : Code) (H : Heap) (locs : List Loc) (cells slots : Nat) (ls : Array Slot) (Q : State → Prop),
      ks_C G M d p R s m args meth c → ks_H G S s H → va_S (ks_A G) s.heap H locs → ls.size = M.2.2.1 → (∀ (H1 : Heap) (locs1 : List Loc), ks_H G S1 s H1 → va_S (ks_A G) s.heap H1 locs1 → W p l e R s m args below meth c H1 locs1 cells slots Q (F0 m pc' ls (st'.map (ks_v G)))) → W p l e R s m args below meth c H locs cells slots Q (F0 m pc ls (st.map (ks_v G))))
    (k : ks_X l G M d pc' lv st' S1 P) : ks_X l G M d pc lv st S P := by
  obtain ⟨v, S', ⟨hm, hV⟩, hP⟩ := k
  rw [e1, e2] at hm
  exact ⟨v, S', ⟨hm, fun p e R s m args below meth c H locs cells slots ls C hH hS hl h1 h2 => h p e R s m args below meth c H locs cells slots ls _ C hH hS hl.1 (fun H1 locs1 hH1 hS1 => hV p e R s m args below meth c H1 locs1 cells slots ls C hH1 hS1 hl (by rw [e1]; exact h1) (by rw [e2]; exact h2))⟩, hP⟩
theorem ks_make {n kc : Nat} (e1 : S1.1 = S.1 + kc) (e2 : S1.2.1 = S.2.1 + n) (h : ∀ (p : Program) (e : Env) (R : Room) (s : State) (m : MethodId) (args : Array Value) (below : List Frame) (meth : Method) (c : Code) (H : Heap) (locs : List Loc) (cells slots : Nat) (ls : Array Slot) (Q : State → Prop),
      ks_C G M d p R s m args meth c → ks_H G S s H → va_S (ks_A G) s.heap H locs → ls.size = M.2.2.1 → cells + kc ≤ R.cells → slots + n ≤ R.slots → (∀ (H1 : Heap), ks_H G S1 s H1 → va_S (ks_A G) s.heap H1 locs → W p l e R s m args below meth c H1 locs (cells + kc) (slots + n) Q (F0 m pc' ls (st'.map (ks_v G)))) → W p l e R s m args below meth c H locs cells slots Q (F0 m pc ls (st.map (ks_v G))))
    (k : ks_X l G M d pc' lv st' S1 P) : ks_X l G M d pc lv st S P := by
  obtain ⟨v, S', ⟨hm, hV⟩, hP⟩ := k
  rw [e1, e2] at hm
  exact ⟨v, S', ⟨⟨by omega, by omega⟩, fun p e R s m args below meth c H locs cells slots ls C hH hS hl h1 h2 => h p e R s m args below meth c H locs cells slots ls _ C hH hS hl.1 (by omega) (by omega) (fun H1 hH1 hS1 => hV p e R s m args below meth c H1 locs (cells + kc) (slots + n) ls C hH1 hS1 hl (by rw [e1]; omega) (by rw [e2]; omega))⟩, hP⟩
/-- getfield -/
theorem ks_getf {a ci N ix kf : Nat} {C ref : String} {T : u_T} {fs : List Value} {v0 : Value} (hw : Cond.fieldLink M.1 ix ref (T kf).2.1 (T kf).2.2.1 ∈ lw_tbl) (hr : (T kf).1 = ref) (hin : ∀ w ∈ u_ws C T N, w ∈ lw_tbl ∧ goodWord w = true) (hc : vwCl[ci]? = some (C, T, N)) (hk : kf < N) (hS : S.2.2 a = some (.inr (ci, fs))) (hv : fs[kf]? = some v0) (hd : decode M.2.1 pc = .ok (.getfield ix, 3)) (hp : pc + 3 = pc') (k : ks_X l G M d pc' lv (v0 :: st) S P) : ks_X l G M d pc lv (.ref a :: st) S P := by
  subst hp
  subst hr
  refine ks_read (fun p e R s m args below meth c H locs cells slots ls Q CC hH k => ?_) k
  obtain ⟨h1, h2, h3⟩ := ks_lt hH hS
  show W p l e R s m args below meth c H locs cells slots Q (F0 m pc ls (.ref (ks_ad G a) :: st.map (ks_v G)))
  rw [h2]
  exact va_get (D := G.1) (cl := vwCl) (ws := [(G.2.2.1 + a, .inr (ci, fs.map (ks_v G)))]) (Ts := u_ws C T N) CC.1 CC.2.1 (fun w hw => CC.2.2.2.2.2.1 w (hin w hw).1 (hin w hw).2) (fun _ h => h) CC.2.2.2.2.1 CC.2.2.2.2.2.2.2.2.1.1 (fun j q hq => by
    cases j with
    | zero => cases hq; exact h3
    | succ j => cases hq) 0 rfl hc kf hk (CC.2.2.2.2.2.1 _ hw rfl) (fun _ h9 => h9) (by rw [List.getElem?_map, hv]; rfl) hd k
/-- getfield of a nest mate's private field -/
theorem ks_getN {a ci N ix kf : Nat} {C ref host : String} {T : u_T} {fs : List Value} {v0 : Value} (hw : Cond.fieldLinkNest M.1 ix ref (T kf).2.1 (T kf).2.2.1 host ∈ lw_tbl) (hr : (T kf).1 = ref) (hin : ∀ w ∈ u_ws C T N, w ∈ lw_tbl ∧ goodWord w = true) (hc : vwCl[ci]? = some (C, T, N)) (hk : kf < N) (hS : S.2.2 a = some (.inr (ci, fs))) (hv : fs[kf]? = some v0) (hd : decode M.2.1 pc = .ok (.getfield ix, 3)) (hp : pc + 3 = pc') (k : ks_X l G M d pc' lv (v0 :: st) S P) : ks_X l G M d pc lv (.ref a :: st) S P := by
  subst hp
  subst hr
  refine ks_read (fun p e R s m args below meth c H locs cells slots ls Q CC hH k => ?_) k
  obtain ⟨h1, h2, h3⟩ := ks_lt hH hS
  show W p l e R s m args below meth c H locs cells slots Q (F0 m pc ls (.ref (ks_ad G a) :: st.map (ks_v G)))
  rw [h2]
  exact va_getN (D := G.1) (cl := vwCl) (ws := [(G.2.2.1 + a, .inr (ci, fs.map (ks_v G)))]) (Ts := u_ws C T N) CC.1 CC.2.1 (fun w hw => CC.2.2.2.2.2.1 w (hin w hw).1 (hin w hw).2) (fun _ h => h) CC.2.2.2.2.1 CC.2.2.2.2.2.2.2.2.1.1 (fun j q hq => by
    cases j with
    | zero => cases hq; exact h3
    | succ j => cases hq) 0 rfl hc kf hk (va_Nw.use rfl (CC.2.2.2.2.2.2.2.2.1.2.1 _ hw rfl)) (fun _ h9 => h9) (by rw [List.getElem?_map, hv]; rfl) hd k
end KsH
