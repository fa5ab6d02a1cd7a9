/-! THE REFERENCE: its constructor, the rows made -/
def icA : List ks_E := [kB 128 (fun _ => 0), kN 8 (fun _ => 0), kN 64 (fun _ => 0), kN 8 (fun _ => 0), kN 64 (fun _ => 0), kL 3 (fun _ => 0), kL 6 (fun _ => 0), kL 9 (fun _ => 0), kN 8 (fun _ => 0), kI 160 (ks_row st_RIPE_ORDER), kI 160 (ks_row st_RIPE_TURNS), kI 10 (ks_row st_RIPE_WORDS), kN 5 (fun _ => 0), kN 5 (fun _ => 0), kB 32 (fun _ => 0), kN 8 (fun _ => 0), .inr (17, [.ref 308, .ref 309, .ref 310]), kN 8 (fun _ => 0), kN 8 (fun _ => 0), kN 8 (fun _ => 0), .inr (17, [.ref 312, .ref 313, .ref 314]), kN 8 (fun _ => 0), kN 8 (fun _ => 0), kN 8 (fun _ => 0), .inr (17, [.ref 316, .ref 317, .ref 318]), kN 8 (fun _ => 0), kN 8 (fun _ => 0), kN 8 (fun _ => 0), .inr (17, [.ref 320, .ref 321, .ref 322]), kN 8 (fun _ => 0), kN 8 (fun _ => 0), kN 8 (fun _ => 0), kN 8 (fun _ => 0), kN 8 (fun _ => 0), kN 8 (fun _ => 0), kN 8 (fun _ => 0), kN 8 (fun _ => 0), kN 8 (fun _ => 0), kN 8 (fun _ => 0), kN 8 (fun _ => 0), kN 8 (fun _ => 0), kN 8 (fun _ => 0), kN 8 (fun _ => 0), kN 8 (fun _ => 0), kN 8 (fun _ => 0), kB 32 (fun _ => 0), kN 8 (fun _ => 0), kN 8 (fun _ => 0), kN 8 (fun _ => 0), kN 8 (fun _ => 0), kA 7 61 (fun _ => none), kN 512 (fun _ => 0), kN 2300 (fun _ => 0), kL 11 (fun _ => 0), kN 10 (fun _ => 0), .inr (16, [.null, .int (nI 0), .ref 347, .ref 348, .ref 349, .ref 350, .ref 351, .ref 352, .ref 353]), kN 12 (fun _ => 0), kN 12 (fun _ => 0), kN 12 (fun _ => 0), kN 12 (fun _ => 0), kN 12 (fun _ => 0), kN 12 (fun _ => 0), kB 384 (fun _ => 0), kB 32 (fun _ => 0), kB 416 (fun _ => 0), kB 64 (fun _ => 0), kB 32 (fun _ => 0), kN 8 (fun _ => 0), kN 8 (fun _ => 0), kN 61 (fun _ => 0), kA 4 1002 (fun _ => none), kN 1002 (fun _ => 0), kA 4 1002 (fun _ => none), kN 1002 (fun _ => 0), kA 4 1002 (fun _ => none), kN 1002 (fun _ => 0), kB 9 (fun _ => 0), kZ 1601 (fun _ => false), kN 21 nedR, kB 32 (fun _ => 0), kB 1700 (fun _ => 0), kB 1700 (fun _ => 0), kB 16384 (fun _ => 0), kL 12 (fun _ => 0), kL 12 (fun _ => 0), kN 12 (fun _ => 0), kN 12 (fun _ => 0), kB 2592 (fun _ => 0), kL 72 (fun _ => 0), kA 4 72 (fun i => if i < 72 then some (380 + 1 + i) else none)]
def icB : List ks_E := [kN 72 (fun _ => 0), kL 72 (fun _ => 0), kA 4 72 (fun i => if i < 72 then some (455 + 1 + i) else none)]
def icC : List ks_E := [kN 72 (fun _ => 0), kB 131072 (fun _ => 0), kB 384 (fun _ => 0), kB 1600 (fun _ => 0), kN 8 (fun _ => 0), kB 65 (fun _ => 0), .inr (16, [.null, .int (nI 0), .ref 535, .ref 536, .ref 537, .ref 538, .ref 539, .ref 540, .ref 541]), kN 12 (fun _ => 0), kN 12 (fun _ => 0), kN 12 (fun _ => 0), kN 12 (fun _ => 0), kN 12 (fun _ => 0), kN 12 (fun _ => 0), kB 384 (fun _ => 0), kB 80 (fun _ => 0), kB 32 (fun _ => 0), kB 64 (fun _ => 0)]
def icK (a : Nat) : ks_E := if a < 381 then icA.getD (a - 291) (kB 0 (fun _ => 0)) else if a < 453 then kB 600 (fun _ => 0) else if a < 456 then icB.getD (a - 453) (kB 0 (fun _ => 0)) else if a < 528 then kB 600 (fun _ => 0) else icC.getD (a - 528) (kB 0 (fun _ => 0))
theorem icK_r (a : Nat) (h : 381 ≤ a ∧ a < 453 ∨ 456 ≤ a ∧ a < 528) : icK a = kB 600 (fun _ => 0) := by
  unfold icK
  rcases h with h | h
  · rw [if_neg (by omega), if_pos (by omega)]
  · rw [if_neg (by omega), if_neg (by omega), if_neg (by omega), if_pos (by omega)]
def icL (F : Nat → Value) : List Value := (List.range 119).map F
theorem icL_len (F : Nat → Value) : (icL F).length = 119 := by unfold icL; rw [List.length_map, List.length_range]
theorem icL_at (F : Nat → Value) (i : Nat) : (icL F)[i]? = if i < 119 then some (F i) else none := by
  unfold icL
  rw [List.getElem?_map]
  by_cases h : i < 119
  · rw [List.getElem?_range h, if_pos h]; rfl
  · rw [List.getElem?_eq_none (by rw [List.length_range]; omega), if_neg h]; rfl
theorem icL_set (F : Nat → Value) (k : Nat) (v : Value) : (icL F).set k v = icL (va_up F k v) := by
  apply List.ext_getElem?
  intro i
  rw [List.getElem?_set, icL_at, icL_at, icL_len]
  by_cases h : k = i
  · rw [if_pos h, h, va_up_self]
  · rw [if_neg h, va_up_ne _ _ (fun e => h e.symm)]
def icS (S0 S : ks_S) (n m : Nat) (F : Nat → Value) : Prop := S.1 = n ∧ S.2.1 = S0.2.1 + m ∧ S.2.2 290 = some (.inr (19, icL F)) ∧ (∀ a, 291 ≤ a → a < n → S.2.2 a = some (icK a)) ∧ ∀ a, a < 290 ∨ n ≤ a → S.2.2 a = S0.2.2 a
theorem icS.step {S0 S S1 : ks_S} {n n' m m' N : Nat} {F : Nat → Value} (h : icS S0 S n m F) (hn : 291 ≤ n) (e1 : S1.1 = n') (e2 : S1.2.1 = S.2.1 + N) (em : m + N = m') (en : n ≤ n') (hc : ∀ a, n ≤ a → a < n' → S1.2.2 a = some (icK a)) (hf : ∀ a, a < n ∨ n' ≤ a → S1.2.2 a = S.2.2 a) : icS S0 S1 n' m' F := by
  obtain ⟨h1, h2, h3, h4, h5⟩ := h
  refine ⟨e1, by rw [e2, h2]; omega, (hf _ (Or.inl (by omega))).trans h3, fun a g1 g2 => ?_, fun a g => (hf a (by omega)).trans (h5 a (by omega))⟩
  by_cases c : a < n
  · exact (hf a (Or.inl c)).trans (h4 a g1 c)
  · exact hc a (by omega) g2
theorem icS.one {S0 S T S1 : ks_S} {n n' m m' N : Nat} {F : Nat → Value} {e : ks_E} (h : icS S0 S n m F) (hn : 291 ≤ n) (q : ks_gr S T n N e) (u : ks_up T S1 [n]) (hc : S1.2.2 n = some (icK n)) (en : n + 1 = n') (em : m + N = m') : icS S0 S1 n' m' F := by
  subst en
  refine h.step hn (u.1.trans q.1) (u.2.1.trans q.2.1) em (by omega) (fun a g1 g2 => ?_) (fun a g => (u.2.2 a (by simp only [List.mem_cons, List.not_mem_nil, or_false]; omega)).trans (q.2.2.2 a (by omega)))
  have : a = n := by omega
  subst this
  exact hc
theorem icS.put {S0 S : ks_S} {n m k : Nat} {F : Nat → Value} {v : Value} (h : icS S0 S n m F) (hn : 291 ≤ n) : icS S0 (ks_set S 290 (.inr (19, (icL F).set k v))) n m (va_up F k v) := by
  obtain ⟨h1, h2, h3, h4, h5⟩ := h
  refine ⟨h1, h2, by rw [ks_set_same, icL_set], fun a g1 g2 => (ks_set_ne _ _ (by omega)).trans (h4 a g1 g2), fun a g => (ks_set_ne _ _ (by omega)).trans (h5 a g)⟩
section
variable {l : Launch} {G : ks_G} {d pc pc' : Nat} {lv : List (Nat × Value)} {st : List Value} {S0 S : ks_S} {P : Option Value → ks_S → Prop} {n n' m m' N kf ix : Nat} {F : Nat → Value}
theorem in_pF (h : icS S0 S n m F) (hn : 291 ≤ n) {x : Nat} (hw : Cond.fieldLink mX16_init.1 ix RX16 (TX16 kf).2.1 (TX16 kf).2.2.1 ∈ lw_tbl) (hr : (TX16 kf).1 = RX16) (hk : kf < 119) (hfin : (TX16 kf).2.2.2 = true) (hn1 : narrow (tyX16 kf) (ks_v G (.ref x)) = ks_v G (.ref x)) (hft : fits (tyX16 kf) (ks_v G (.ref x)) = true) (hd : decode mX16_init.2.1 pc = .ok (.putfield ix, 3)) (hp : pc + 3 = pc') (k : ∀ S1, icS S0 S1 n m (va_up F kf (.ref x)) → ks_X l G mX16_init d pc' lv st S1 P) : ks_X l G mX16_init d pc lv (.ref x :: .ref 290 :: st) S P :=
  ks_putF (T := TX16) (kf := kf) hw hr rfl rfl in_X16 tyX16_ok nmX16 cl_X16 hk h.2.2.1 (by rw [icL_len]; exact hk) hfin rfl hn1 hft hd hp (k _ (h.put hn))
theorem in_pf (h : icS S0 S n m F) (hn : 291 ≤ n) {x : Nat} (hw : Cond.fieldLink mX16_init.1 ix RX16 (TX16 kf).2.1 (TX16 kf).2.2.1 ∈ lw_tbl) (hr : (TX16 kf).1 = RX16) (hk : kf < 119) (hfin : (TX16 kf).2.2.2 = false) (hn1 : narrow (tyX16 kf) (ks_v G (.ref x)) = ks_v G (.ref x)) (hft : fits (tyX16 kf) (ks_v G (.ref x)) = true) (hd : decode mX16_init.2.1 pc = .ok (.putfield ix, 3)) (hp : pc + 3 = pc') (k : ∀ S1, icS S0 S1 n m (va_up F kf (.ref x)) → ks_X l G mX16_init d pc' lv st S1 P) : ks_X l G mX16_init d pc lv (.ref x :: .ref 290 :: st) S P :=
  ks_putf (T := TX16) (kf := kf) hw hr in_X16 tyX16_ok nmX16 cl_X16 hk h.2.2.1 (by rw [icL_len]; exact hk) hfin rfl hn1 hft hd hp (k _ (h.put hn))
theorem inB_lt {n : Nat} (h : n < 1000) : n < ks_B := by unfold ks_B; omega

theorem in_nB (h : icS S0 S n m F) (hn : 291 ≤ n ∧ n < 1000) (hK : icK n = kB N (fun _ => 0)) (hN : N < 1000000) (en : n + 1 = n') (em : m + N = m') (hw : Cond.arrayClass .byte ∈ lw_tbl) (hd : decode mX16_init.2.1 pc = .ok (.newarray .byte, 2)) (hp : pc + 2 = pc') (k : ∀ S1, icS S0 S1 n' m' F → ks_X l G mX16_init d pc' lv (.ref n :: st) S1 P) : ks_X l G mX16_init d pc lv (.int (nI N) :: st) S P :=
  ks_newBx h.1 hw hN (inB_lt hn.2) hd hp (fun S2 q => k S2 (h.one hn.1 q ⟨rfl, rfl, fun _ _ => rfl⟩ (by rw [hK]; exact q.2.2.1) en em))
theorem in_nN (h : icS S0 S n m F) (hn : 291 ≤ n ∧ n < 1000) (hK : icK n = kN N (fun _ => 0)) (hN : N < 1000000) (en : n + 1 = n') (em : m + N = m') (hw : Cond.arrayClass .int ∈ lw_tbl) (hd : decode mX16_init.2.1 pc = .ok (.newarray .int, 2)) (hp : pc + 2 = pc') (k : ∀ S1, icS S0 S1 n' m' F → ks_X l G mX16_init d pc' lv (.ref n :: st) S1 P) : ks_X l G mX16_init d pc lv (.int (nI N) :: st) S P :=
  ks_newNx h.1 hw hN (inB_lt hn.2) hd hp (fun S2 q => k S2 (h.one hn.1 q ⟨rfl, rfl, fun _ _ => rfl⟩ (by rw [hK]; exact q.2.2.1) en em))
theorem in_nL (h : icS S0 S n m F) (hn : 291 ≤ n ∧ n < 1000) (hK : icK n = kL N (fun _ => 0)) (hN : N < 1000000) (en : n + 1 = n') (em : m + N = m') (hw : Cond.arrayClass .long ∈ lw_tbl) (hd : decode mX16_init.2.1 pc = .ok (.newarray .long, 2)) (hp : pc + 2 = pc') (k : ∀ S1, icS S0 S1 n' m' F → ks_X l G mX16_init d pc' lv (.ref n :: st) S1 P) : ks_X l G mX16_init d pc lv (.int (nI N) :: st) S P :=
  ks_newLx h.1 hw hN (inB_lt hn.2) hd hp (fun S2 q => k S2 (h.one hn.1 q ⟨rfl, rfl, fun _ _ => rfl⟩ (by rw [hK]; exact q.2.2.1) en em))
theorem in_nZ (h : icS S0 S n m F) (hn : 291 ≤ n ∧ n < 1000) (hK : icK n = kZ N (fun _ => false)) (hN : N < 1000000) (en : n + 1 = n') (em : m + N = m') (hw : Cond.arrayClass .boolean ∈ lw_tbl) (hd : decode mX16_init.2.1 pc = .ok (.newarray .boolean, 2)) (hp : pc + 2 = pc') (k : ∀ S1, icS S0 S1 n' m' F → ks_X l G mX16_init d pc' lv (.ref n :: st) S1 P) : ks_X l G mX16_init d pc lv (.int (nI N) :: st) S P :=
  ks_newZx h.1 hw hN (inB_lt hn.2) hd hp (fun S2 q => k S2 (h.one hn.1 q ⟨rfl, rfl, fun _ _ => rfl⟩ (by rw [hK]; exact q.2.2.1) en em))
theorem in_nA {t : Nat} {C : String} (h : icS S0 S n m F) (hn : 291 ≤ n ∧ n < 1000) (hK : icK n = kA t N (fun _ => none)) (hN : N < 1000000) (en : n + 1 = n') (em : m + N = m') (ht : (ks_tys G)[t]? = some (G.2.1 t, .object C)) (hcl : Cond.classLink mX16_init.1 ix C ∈ lw_tbl) (hov : ∀ U : State, ks_K G U → va_AO C U) (hd : decode mX16_init.2.1 pc = .ok (.anewarray ix, 3)) (hp : pc + 3 = pc') (k : ∀ S1, icS S0 S1 n' m' F → ks_X l G mX16_init d pc' lv (.ref n :: st) S1 P) : ks_X l G mX16_init d pc lv (.int (nI N) :: st) S P :=
  ks_anewx h.1 ht hcl hov hN (inB_lt hn.2) hd hp (fun S2 q => k S2 (h.one hn.1 q ⟨rfl, rfl, fun _ _ => rfl⟩ (by rw [hK]; exact q.2.2.1) en em))
end
theorem ks_anewA {l : Launch} {G : ks_G} {M : ks_M} {d pc pc' : Nat} {lv : List (Nat × Value)} {st : List Value} {S : ks_S} {P : Option Value → ks_S → Prop} {N ix : Nat} {n : Int32} (hcl : Cond.classLink M.1 ix "[B" ∈ lw_tbl) (hn : ¬ n < 0) (hN : n.toNatClampNeg = N) (hbytes : N * 4 ≤ 536870912) (hB : S.1 < ks_B) (hd : decode M.2.1 pc = .ok (.anewarray ix, 3)) (hp : pc + 3 = pc') (k : ks_X l G M d pc' lv (.ref S.1 :: st) (ks_add S N (kA 4 N (fun _ => none))) P) : ks_X l G M d pc lv (.int n :: st) S P := by
  subst hp
  subst hN
  refine ks_make (S1 := ks_add S n.toNatClampNeg (kA 4 n.toNatClampNeg (fun _ => none))) (kc := 1) (n := n.toNatClampNeg) rfl rfl (fun p e R s m args below meth c H locs cells slots ls Q CC hH hS0 hls hcc hss k9 => ?_) k
  have hKs := CC.2.2.2.2.2.2.2.2.1
  have hK := hKs.1
  have e9 : (FieldType.array .byte).toString = "[B" := by decide +kernel
  intro T hT X
  obtain ⟨vm₁, cA, kA1, comp, hW, fA, f2, f3, f4, X', step⟩ := X.anewarrayArrK (ty := .byte) CC.1 CC.2.2.2.2.1 (by rw [e9]; exact CC.2.2.2.2.2.1 _ hcl rfl) (ks_GA_ok G s hKs) (g := F0 m pc ls (.int n :: st.map (ks_v G))) rfl (by rw [CC.2.1]; exact hd) rfl hn hbytes hcc hss
  have hcA : cA = G.2.1 4 := Option.some.inj (fA.symm.trans (hK.2 4 _ rfl).2)
  subst hcA
  have hTh : (T.setVm vm₁).heap = H := hT
  generalize hH1 : H.push ({ cls := G.2.1 4, slots := Array.replicate n.toNatClampNeg .null, vm := .none } : Cell) = H1
  have z1 : H1.size = H.size + 1 := by rw [← hH1, Array.size_push]
  have e1 : H1[H.size]? = some (arrV (G.2.1 4) n.toNatClampNeg (fun _ => .null)) := by rw [← hH1, Array.getElem?_push_size, ← arrV_new]
  have o1 : ∀ q : Nat, q < H.size → H1[q]? = H[q]? := fun q hq => by rw [← hH1, Array.getElem?_push, if_neg (Nat.ne_of_lt hq)]
  rw [hH.1] at e1
  have h9 := k9 H1 (hH.add hB (by rw [z1, hH.1]) (fun q hq => o1 q (by first | exact hq | (rw [hH.1]; exact hq))) (by
    show H1[G.2.2.1 + S.1]? = some (vp_cell (G.2.1 4) (n.toNatClampNeg, .inr (.inr (.inr (.inr (fun _ => none))))))
    rw [vp_cell_q]
    exact e1)) ⟨Nat.le_trans hS0.1 (by rw [z1]; omega), fun q g1 g2 => (o1 q (Nat.lt_of_lt_of_le g1 hS0.1)).trans (hS0.2.1 q g1 g2), hS0.2.2⟩
  have e5 : (List.map (ks_v G) (.ref S.1 :: st)) = (.ref (G.2.2.1 + S.1) :: st.map (ks_v G)) := by
    show (Value.ref (ks_ad G S.1) :: _) = _
    rw [ks_ad_lt hB]
  rw [e5, ← hH.1] at h9
  obtain ⟨t, a1, b1⟩ := h9 _ (by rw [← hH1, ← hTh]; rfl) X'
  refine ⟨t, step t ?_, b1⟩
  rw [hT]
  exact a1
theorem in_nY {l : Launch} {G : ks_G} {d pc pc' : Nat} {lv : List (Nat × Value)} {st : List Value} {S0 S : ks_S} {P : Option Value → ks_S → Prop} {n n' m m' N ix : Nat} {F : Nat → Value} (h : icS S0 S n m F) (hn : 291 ≤ n ∧ n < 1000) (hK : icK n = kA 4 N (fun _ => none)) (hN : N < 1000000) (en : n + 1 = n') (em : m + N = m') (hcl : Cond.classLink mX16_init.1 ix "[B" ∈ lw_tbl) (hd : decode mX16_init.2.1 pc = .ok (.anewarray ix, 3)) (hp : pc + 3 = pc') (k : ∀ S1, icS S0 S1 n' m' F → ks_X l G mX16_init d pc' lv (.ref n :: st) S1 P) : ks_X l G mX16_init d pc lv (.int (nI N) :: st) S P := by
  have e1 := h.1
  refine ks_anewA hcl (nI_pos (by omega)) (nI_clamp (by omega)) (by omega) (by rw [e1]; exact inB_lt hn.2) hd hp ?_
  rw [e1]
  refine k _ (h.one (T := ks_add S N (kA 4 N (fun _ => none))) (e := kA 4 N (fun _ => none)) hn.1 ⟨?_, rfl, ?_, fun a ha => ks_add_ne _ _ _ (by rw [e1]; exact ha)⟩ ⟨rfl, rfl, fun _ _ => rfl⟩ ?_ en em)
  · show S.1 + 1 = n + 1
    rw [e1]
  · rw [← e1]; exact ks_add_new _ _ _
  · rw [hK, ← e1]; exact ks_add_new _ _ _
set_option maxRecDepth 100000 in
theorem kx_1849 : Cond.classLink "CoinJudgeModel" 799 "[[B" ∈ lw_tbl := by
  first
    | exact List.mem_append_right _ (List.mem_of_getElem? (i := 1849) (by decide +kernel))
    | exact List.mem_append_left _ (List.mem_of_getElem? (i := 1849) (by decide +kernel))
theorem in_nM {l : Launch} {G : ks_G} {d pc pc' : Nat} {lv : List (Nat × Value)} {st : List Value} {S0 S : ks_S} {P : Option Value → ks_S → Prop} {n n' m m' ix : Nat} {F : Nat → Value} (h : icS S0 S n m F) (hn : n = 380 ∨ n = 455) (hK : icK n = kA 4 72 (fun i => if i < 72 then some (n + 1 + i) else none)) (en : n + 1 + 72 = n') (em : m + (72 + 72 * 600) = m') (harr : Cond.arrayClass .byte ∈ lw_tbl) (hcl : Cond.classLink mX16_init.1 ix "[[B" ∈ lw_tbl) (hd : decode mX16_init.2.1 pc = .ok (.multianewarray ix 2, 4)) (hp : pc + 4 = pc') (k : ∀ S1, icS S0 S1 n' m' F → ks_X l G mX16_init d pc' lv (.ref n :: st) S1 P) : ks_X l G mX16_init d pc lv (.int (nI 600) :: .int (nI 72) :: st) S P := by
  refine ks_mnax (N := 72) (K := 600) (x := n) h.1 (ks_GA_ok G) hcl harr (by decide) (by decide) (by unfold ks_B; omega) hd hp (fun S2 q => k S2 (h.step (by omega) (q.1.trans en) q.2.1 em (by omega) (fun a g1 g2 => ?_) (fun a g => q.2.2.2.2 a (by omega))))
  by_cases c : a = n
  · subst c
    rw [hK]
    exact q.2.2.1
  · have e := q.2.2.2.1 (a - n - 1) (by omega)
    rw [show n + 1 + (a - n - 1) = a by omega] at e
    rw [icK_r a (by omega)]
    exact e
theorem in_nP {S0 S : ks_S} {n n' m m' : Nat} {F : Nat → Value} {S1 S2 : ks_S} (h : icS S0 S n m F) (hn : 291 ≤ n ∧ n < 1000) (q : ks_gr S S1 n 3 (.inr (17, [.null, .null, .null]))) (y : S2.1 = n + 4 ∧ S2.2.1 = S1.2.1 + 24 ∧ (∀ a, a < n ∨ n + 3 < a → S2.2.2 a = S1.2.2 a) ∧ S2.2.2 n = some (.inr (17, [.ref (n + 1), .ref (n + 2), .ref (n + 3)])) ∧ (∀ r, r < 3 → S2.2.2 (n + 1 + r) = some (kN 8 (fun _ => 0)))) (hK : icK n = .inr (17, [.ref (n + 1), .ref (n + 2), .ref (n + 3)])) (hK1 : icK (n + 1) = kN 8 (fun _ => 0)) (hK2 : icK (n + 2) = kN 8 (fun _ => 0)) (hK3 : icK (n + 3) = kN 8 (fun _ => 0)) (en : n + 4 = n') (em : m + 27 = m') : icS S0 S2 n' m' F := by
  obtain ⟨y1, y2, y3, y4, y5⟩ := y
  have q2 : S1.2.1 = S.2.1 + 3 := q.2.1
  refine h.step (N := 27) hn.1 (y1.trans en) (by omega) em (by omega) (fun a g1 g2 => ?_) (fun a g => (y3 a (by omega)).trans (q.2.2.2 a (by omega)))
  have : a = n ∨ a = n + 1 ∨ a = n + 2 ∨ a = n + 3 := by omega
  rcases this with rfl | rfl | rfl | rfl
  · rw [hK]; exact y4
  · rw [hK1]; exact y5 0 (by decide)
  · rw [hK2]; exact y5 1 (by decide)
  · rw [hK3]; exact y5 2 (by decide)
theorem in_nR {S0 S : ks_S} {n n' m m' : Nat} {F : Nat → Value} {S1 S2 : ks_S} (h : icS S0 S n m F) (hn : 291 ≤ n ∧ n < 1000) (q : ks_gr S S1 n 9 (.inr (16, [.null, .int (nI 0), .null, .null, .null, .null, .null, .null, .null]))) (y : S2.1 = n + 8 ∧ S2.2.1 = S1.2.1 + 456 ∧ (∀ a, a < n ∨ n + 7 < a → S2.2.2 a = S1.2.2 a) ∧ S2.2.2 n = some (.inr (16, [.null, .int (nI 0), .ref (n + 1), .ref (n + 2), .ref (n + 3), .ref (n + 4), .ref (n + 5), .ref (n + 6), .ref (n + 7)])) ∧ (∀ r, r < 6 → S2.2.2 (n + 1 + r) = some (kN 12 (fun _ => 0))) ∧ S2.2.2 (n + 7) = some (kB 384 (fun _ => 0))) (hK : icK n = .inr (16, [.null, .int (nI 0), .ref (n + 1), .ref (n + 2), .ref (n + 3), .ref (n + 4), .ref (n + 5), .ref (n + 6), .ref (n + 7)])) (hK1 : icK (n + 1) = kN 12 (fun _ => 0)) (hK2 : icK (n + 2) = kN 12 (fun _ => 0)) (hK3 : icK (n + 3) = kN 12 (fun _ => 0)) (hK4 : icK (n + 4) = kN 12 (fun _ => 0)) (hK5 : icK (n + 5) = kN 12 (fun _ => 0)) (hK6 : icK (n + 6) = kN 12 (fun _ => 0)) (hK7 : icK (n + 7) = kB 384 (fun _ => 0)) (en : n + 8 = n') (em : m + 465 = m') : icS S0 S2 n' m' F := by
  obtain ⟨y1, y2, y3, y4, y5, y6⟩ := y
  have q2 : S1.2.1 = S.2.1 + 9 := q.2.1
  refine h.step (N := 465) hn.1 (y1.trans en) (by omega) em (by omega) (fun a g1 g2 => ?_) (fun a g => (y3 a (by omega)).trans (q.2.2.2 a (by omega)))
  have : a = n ∨ a = n + 1 ∨ a = n + 2 ∨ a = n + 3 ∨ a = n + 4 ∨ a = n + 5 ∨ a = n + 6 ∨ a = n + 7 := by omega
  rcases this with rfl | rfl | rfl | rfl | rfl | rfl | rfl | rfl
  · rw [hK]; exact y4
  · rw [hK1]; exact y5 0 (by decide)
  · rw [hK2]; exact y5 1 (by decide)
  · rw [hK3]; exact y5 2 (by decide)
  · rw [hK4]; exact y5 3 (by decide)
  · rw [hK5]; exact y5 4 (by decide)
  · rw [hK6]; exact y5 5 (by decide)
  · rw [hK7]; exact y6
