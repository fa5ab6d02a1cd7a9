/-! THE REFERENCE: its constructor to its loop's end -/
def icD : Nat → Value := fun k => ([.null, .null, .null, .null, .null, .null, .null, .null, .null, .null, .null, .null, .null, .null, .null, .null, .null, .null, .null, .null, .null, .null, .null, .null, .null, .null, .null, .null, .null, .null, .null, .null, .null, .null, .null, .null, .int (nI 0), .int (nI 0), .null, .int (ks_bo false), .int (nI 0), .int (nI 0), .null, .null, .null, .null, .null, .int (nI 0), .int (nI 0), .null, .int (nI 0), .null, .int (nI 0), .null, .null, .int (nI 0), .null, .null, .null, .null, .null, .null, .null, .int (nI 0), .null, .null, .null, .int (nI 0), .null, .null, .int (nI 0), .null, .null, .int (nI 0), .int (ks_bo false), .null, .null, .int (nI 0), .int (nI 0), .null, .int (nI 0), .int (nI 0), .int (nI 0), .null, .int (nI 0), .null, .null, .null, .null, .int (nI 0), .null, .int (nI 0), .int (nI 0), .long (lN 0), .int (nI 0), .null, .null, .null, .null, .null, .null, .null, .null, .null, .null, .null, .null, .int (nI 0), .null, .null, .int (nI 0), .int (nI 0), .null, .null, .null, .null, .int (nI 0), .null, .null] : List Value).getD k .null
def icV : Nat → Value := va_up (va_up icD 87 (.ref 371)) 88 (.ref 372)
theorem wA_ag {S S1 : ks_S} {a V : Nat} (h : wA S a V) (e : S1.2.2 a = S.2.2 a) : wA S1 a V := by
  obtain ⟨g, h1, h2⟩ := h
  exact ⟨g, e.trans h1, h2⟩
theorem rgF_ag {S S1 : ks_S} {o m mu : Nat} (h : rgF S o m mu) (hg : ∀ a, o ≤ a → a ≤ o + 7 → S1.2.2 a = S.2.2 a) : rgF S1 o m mu := by
  obtain ⟨⟨x1, x2, ⟨g, x3, x4⟩, x5⟩, h1, h2, h3, ⟨V6, h6⟩, V7, h7⟩ := h
  exact ⟨⟨(hg _ (by omega) (by omega)).trans x1, wA_ag x2 (hg _ (by omega) (by omega)), ⟨g, (hg _ (by omega) (by omega)).trans x3, x4⟩, x5⟩, wA_ag h1 (hg _ (by omega) (by omega)), wA_ag h2 (hg _ (by omega) (by omega)), wA_ag h3 (hg _ (by omega) (by omega)), ⟨V6, wA_ag h6 (hg _ (by omega) (by omega))⟩, V7, wA_ag h7 (hg _ (by omega) (by omega))⟩
def icU (S0 S : ks_S) (n m : Nat) (F : Nat → Value) : Prop := S.1 = n ∧ S.2.1 = S0.2.1 + m ∧ S.2.2 290 = some (.inr (19, icL F)) ∧ (∀ a, 291 ≤ a → a < 545 → S.2.2 a = some (icK a)) ∧ ∀ a, a < 290 ∨ n ≤ a → S.2.2 a = S0.2.2 a
theorem icU.step {S0 S S1 : ks_S} {n n' m m' N : Nat} {F : Nat → Value} (h : icU S0 S n m F) (hn : 545 ≤ n) (e1 : S1.1 = n') (e2 : S1.2.1 = S.2.1 + N) (em : m + N = m') (en : n ≤ n') (hf : ∀ a, a < n ∨ n' ≤ a → S1.2.2 a = S.2.2 a) : icU S0 S1 n' m' F := by
  obtain ⟨h1, h2, h3, h4, h5⟩ := h
  exact ⟨e1, by rw [e2, h2]; omega, (hf _ (Or.inl (by omega))).trans h3, fun a g1 g2 => (hf a (by omega)).trans (h4 a g1 g2), fun a g => (hf a (by omega)).trans (h5 a (by omega))⟩
theorem icU.put {S0 S : ks_S} {n m k : Nat} {F : Nat → Value} {v : Value} (h : icU S0 S n m F) (hn : 545 ≤ n) : icU S0 (ks_set S 290 (.inr (19, (icL F).set k v))) n m (va_up F k v) := by
  obtain ⟨h1, h2, h3, h4, h5⟩ := h
  refine ⟨h1, h2, by rw [ks_set_same, icL_set], fun a g1 g2 => (ks_set_ne _ _ (by omega)).trans (h4 a g1 g2), fun a g => (ks_set_ne _ _ (by omega)).trans (h5 a g)⟩
theorem in_pU {l : Launch} {G : ks_G} {d pc pc' : Nat} {lv : List (Nat × Value)} {st : List Value} {S0 S : ks_S} {P : Option Value → ks_S → Prop} {n m kf ix : Nat} {F : Nat → Value} (h : icU S0 S n m F) (hn : 545 ≤ n) {x : Nat} (hw : Cond.fieldLink mX16_init.1 ix RX16 (TX16 kf).2.1 (TX16 kf).2.2.1 ∈ lw_tbl) (hr : (TX16 kf).1 = RX16) (hk : kf < 119) (hfin : (TX16 kf).2.2.2 = true) (hn1 : narrow (tyX16 kf) (ks_v G (.ref x)) = ks_v G (.ref x)) (hft : fits (tyX16 kf) (ks_v G (.ref x)) = true) (hd : decode mX16_init.2.1 pc = .ok (.putfield ix, 3)) (hp : pc + 3 = pc') (k : ∀ S1, icU S0 S1 n m (va_up F kf (.ref x)) → (∀ a, a ≠ 290 → S1.2.2 a = S.2.2 a) → ks_X l G mX16_init d pc' lv st S1 P) : ks_X l G mX16_init d pc lv (.ref x :: .ref 290 :: st) S P :=
  ks_putF (T := TX16) (kf := kf) hw hr rfl rfl in_X16 tyX16_ok nmX16 cl_X16 hk h.2.2.1 (by rw [icL_len]; exact hk) hfin rfl hn1 hft hd hp (k _ (h.put hn) (fun a ha => ks_set_ne _ _ ha))
def icT (S0 S : ks_S) (V : Nat → Value) : Prop := S.1 = 563 ∧ S.2.1 = S0.2.1 + 255783 ∧ S.2.2 290 = some (rfE V) ∧ (∀ a, 291 ≤ a → a < 545 → S.2.2 a = some (icK a)) ∧ (∀ a, a < 290 ∨ 563 ≤ a → S.2.2 a = S0.2.2 a) ∧ wA S 545 pP ∧ wA S 546 nN ∧ rgF S 547 pP muP ∧ rgF S 555 nN muN
theorem rgV_p : -(rgV (nI (pP % 4294967296)) 5 (nI 1)) = nI muP := by decide +kernel
theorem rgV_n : -(rgV (nI (nN % 4294967296)) 5 (nI 1)) = nI muN := by decide +kernel
set_option maxRecDepth 100000 in
set_option maxHeartbeats 800000 in
theorem l_i10 {l : Launch} {G : ks_G} {d : Nat} {S0 S : ks_S} {F V : Nat → Value} (h : icS S0 S 545 255635 F) (hF : icL (va_up (va_up F 15 (.ref 547)) 16 (.ref 555)) = rfL V) {P9 : Option Value → ks_S → Prop} (hk : ∀ S1, icT S0 S1 V → ks_X l G mX16_init (d + 3) 2900 [(0, .ref 290), (3, .int (nI 0)), (4, .int (nI 2))] [] S1 P9) : ks_X l G mX16_init (d + 3) 2781 [(0, .ref 290)] [] S P9 := by
  have h0 : icU S0 S 545 255635 F := h
  clear h
  refine ks_bipush (x := nI 8) dX16_init_2781 (by decide) rfl ?_
  refine ks_newNx (N := 8) (x := 545) h0.1 kx_100 (by decide) (by unfold ks_B; decide) dX16_init_2783 rfl (fun T1 q1 => ?_)
  refine l_inPp q1.2.2.1 (fun U1 u1 a1 => ?_)
  have h1 : icU S0 U1 546 255643 F := h0.step (N := 8) (by decide) (u1.1.trans q1.1) (u1.2.1.trans q1.2.1) rfl (by decide) (fun a ha => (u1.2.2 a (by simp only [List.mem_cons, List.not_mem_nil, or_false]; omega)).trans (q1.2.2.2 a (by omega)))
  clear u1 q1 h0
  refine ks_astore_n dX16_init_2822 (by decide) rfl ?_
  refine ks_sub [(1, _), (0, _)] rfl ?_
  refine ks_bipush (x := nI 8) dX16_init_2823 (by decide) rfl ?_
  refine ks_newNx (N := 8) (x := 546) h1.1 kx_100 (by decide) (by unfold ks_B; decide) dX16_init_2825 rfl (fun T2 q2 => ?_)
  refine l_inNn q2.2.2.1 (fun U2 u2 a2 => ?_)
  have h2 : icU S0 U2 547 255651 F := h1.step (N := 8) (by decide) (u2.1.trans q2.1) (u2.2.1.trans q2.2.1) rfl (by decide) (fun a ha => (u2.2.2 a (by simp only [List.mem_cons, List.not_mem_nil, or_false]; omega)).trans (q2.2.2.2 a (by omega)))
  have p2 : wA U2 545 pP := wA_ag a1 ((u2.2.2 545 (by decide)).trans (q2.2.2.2 545 (by decide)))
  clear u2 q2 h1 a1
  refine ks_astore_n dX16_init_2870 (by decide) rfl ?_
  refine ks_sub [(2, _), (0, _), (1, _)] rfl ?_
  refine ks_aload_n dX16_init_2871 rfl rfl ?_
  refine ks_newcx (ci := 18) (x := 547) (ty0 := tyX15) (fs := [.null, .int (nI 0), .null, .null, .null, .null, .null, .null]) h2.1 kx_1855 kx_1856 kx_33 in_X15 tyX15_ok cl_X15 (fun j hj => by rcases j with _ | _ | _ | _ | _ | _ | _ | _ | j <;> first | rfl | (exfalso; omega)) rfl (by unfold ks_B; decide) dX16_init_2872 rfl (fun T3 q3 => ?_)
  refine ks_dup dX16_init_2875 rfl rfl ?_
  refine ks_aload_n dX16_init_2876 rfl rfl ?_
  refine ks_callI (n := 1) (M' := mX15_init) (c_rg_init (d := d) (o := 547) (y := 545) (m := pP) (mu := muP) (ri := riP) q3.2.2.1 q3.1 (by unfold ks_B; decide) (wA_ag p2 (q3.2.2.2 545 (by decide))) (by decide) rN_p rgV_p) rfl rfl kx_1857 kx_1858 kx_33 kx_1859 (by decide +kernel) rfl (by decide) (Nat.le_of_ble_eq_true rfl) rfl dX16_init_2877 rfl (fun z3 U3 y3 => ?_)
  obtain ⟨rfl, y31, y32, y33, r3⟩ := y3
  have h3 : icU S0 U3 555 255717 F := h2.step (N := 66) (by decide) y31 (by have := q3.2.1; omega) rfl (by decide) (fun a ha => (y33 a (by omega)).trans (q3.2.2.2 a (by omega)))
  have p3 : wA U3 545 pP := wA_ag p2 ((y33 545 (by decide)).trans (q3.2.2.2 545 (by decide)))
  have a3 : wA U3 546 nN := wA_ag a2 ((y33 546 (by decide)).trans (q3.2.2.2 546 (by decide)))
  clear y31 y32 y33 q3 h2 p2 a2
  refine in_pU (kf := 15) h3 (by decide) kx_2383 rfl (by decide) rfl rfl rfl dX16_init_2880 rfl (fun U4 h4 f4 => ?_)
  have p4 : wA U4 545 pP := wA_ag p3 (f4 545 (by decide))
  have a4 : wA U4 546 nN := wA_ag a3 (f4 546 (by decide))
  have r4 : rgF U4 547 pP muP := rgF_ag r3 (fun a g1 g2 => f4 a (by omega))
  clear f4 p3 a3 r3 h3
  refine ks_aload_n dX16_init_2883 rfl rfl ?_
  refine ks_newcx (ci := 18) (x := 555) (ty0 := tyX15) (fs := [.null, .int (nI 0), .null, .null, .null, .null, .null, .null]) h4.1 kx_1855 kx_1856 kx_33 in_X15 tyX15_ok cl_X15 (fun j hj => by rcases j with _ | _ | _ | _ | _ | _ | _ | _ | j <;> first | rfl | (exfalso; omega)) rfl (by unfold ks_B; decide) dX16_init_2884 rfl (fun T5 q5 => ?_)
  refine ks_dup dX16_init_2887 rfl rfl ?_
  refine ks_aload_n dX16_init_2888 rfl rfl ?_
  refine ks_callI (n := 1) (M' := mX15_init) (c_rg_init (d := d) (o := 555) (y := 546) (m := nN) (mu := muN) (ri := riN) q5.2.2.1 q5.1 (by unfold ks_B; decide) (wA_ag a4 (q5.2.2.2 546 (by decide))) (by decide) rN_n rgV_n) rfl rfl kx_1857 kx_1858 kx_33 kx_1859 (by decide +kernel) rfl (by decide) (Nat.le_of_ble_eq_true rfl) rfl dX16_init_2889 rfl (fun z5 U5 y5 => ?_)
  obtain ⟨rfl, y51, y52, y53, r5⟩ := y5
  have h5 : icU S0 U5 563 255783 (va_up F 15 (.ref 547)) := h4.step (N := 66) (by decide) y51 (by have := q5.2.1; omega) rfl (by decide) (fun a ha => (y53 a (by omega)).trans (q5.2.2.2 a (by omega)))
  have p5 : wA U5 545 pP := wA_ag p4 ((y53 545 (by decide)).trans (q5.2.2.2 545 (by decide)))
  have a5 : wA U5 546 nN := wA_ag a4 ((y53 546 (by decide)).trans (q5.2.2.2 546 (by decide)))
  have g5 : rgF U5 547 pP muP := rgF_ag r4 (fun a g1 g2 => (y53 a (by omega)).trans (q5.2.2.2 a (by omega)))
  clear y51 y52 y53 q5 h4 p4 a4 r4
  refine in_pU (kf := 16) h5 (by decide) kx_2384 rfl (by decide) rfl rfl rfl dX16_init_2892 rfl (fun U6 h6 f6 => ?_)
  refine ks_sub [(0, _)] rfl ?_
  refine ks_iconst (x := nI 0) dX16_init_2895 (by decide) rfl ?_
  refine ks_istore_n dX16_init_2896 (by decide) rfl ?_
  refine ks_sub [(3, _), (0, _)] rfl ?_
  refine ks_iconst (x := nI 2) dX16_init_2897 (by decide) rfl ?_
  refine ks_istore dX16_init_2898 (by decide) rfl ?_
  refine ks_sub [(4, _), (0, _), (3, _)] rfl ?_
  refine ks_sub [(0, _), (3, _), (4, _)] rfl (hk U6 ⟨h6.1, h6.2.1, ?_, h6.2.2.2.1, h6.2.2.2.2, wA_ag p5 (f6 545 (by decide)), wA_ag a5 (f6 546 (by decide)), rgF_ag g5 (fun a g1 g2 => f6 a (by omega)), rgF_ag r5 (fun a g1 g2 => f6 a (by omega))⟩)
  rw [h6.2.2.1, hF]
set_option maxRecDepth 100000 in
set_option maxHeartbeats 800000 in
theorem l_i11 {l : Launch} {G : ks_G} {d : Nat} {S : ks_S} (hO : S.2.2 290 = some (.inr (19, icL icD))) (hS1 : S.1 = 291) {P9 : Option Value → ks_S → Prop} (hk : ∀ S1, icT S S1 icV → ks_X l G mX16_init (d + 3) 2900 [(0, .ref 290), (3, .int (nI 0)), (4, .int (nI 2))] [] S1 P9) : ks_X l G mX16_init (d + 3) 0 [(0, .ref 290)] [] S P9 := by
  refine ks_aload_n dX16_init_0 rfl rfl ?_
  refine ks_objInit kx_1777 kx_43 kx_44 (by omega) (by decide) dX16_init_1 rfl ?_
  have h : icS S S 291 0 icD := ⟨hS1, rfl, hO, fun a h1 h2 => by omega, fun _ _ => rfl⟩
  refine l_i0 (d := d + 1) h (fun S1 h => ?_)
  refine l_i1 (d := d + 1) h (fun S1 h => ?_)
  refine l_i2 (d := d + 1) h (fun S1 h => ?_)
  refine l_i3 (d := d + 1) h (fun S1 h => ?_)
  refine l_i4 (d := d + 1) h (fun S1 h => ?_)
  refine l_i5 (d := d + 1) h (fun S1 h => ?_)
  refine l_i6 (d := d + 1) h (fun S1 h => ?_)
  refine l_i7 (d := d + 1) h (fun S1 h => ?_)
  refine l_i8 (d := d + 1) h (fun S1 h => ?_)
  refine l_i9 (d := d + 1) h (fun S1 h => ?_)
  exact l_i10 (d := d) h rfl hk
theorem sh_K_z (j : Nat) (h : 64 ≤ j) : sh_K j = nI 0 := by
  show st_SHA_WORDS.getD j 0 = nI 0
  rw [List.getD_eq_getElem?_getD, List.getElem?_eq_none (show st_SHA_WORDS.length ≤ j from h)]
  rfl
theorem st_S_z (j : Nat) (h : 8 ≤ j) : ks_row st_SHA_START j = nI 0 := by
  show st_SHA_START.getD j 0 = nI 0
  rw [List.getD_eq_getElem?_getD, List.getElem?_eq_none (show st_SHA_START.length ≤ j from h)]
  rfl
def icR (S0 S : ks_S) (V : Nat → Value) : Prop := S.1 = 563 ∧ S.2.1 = S0.2.1 + 255783 ∧ S.2.2 290 = some (rfE V) ∧ (∀ a, 291 ≤ a → a < 545 → a < 294 ∨ 298 < a → S.2.2 a = some (icK a)) ∧ (∀ a, a < 290 ∨ 563 ≤ a → S.2.2 a = S0.2.2 a) ∧ wA S 545 pP ∧ wA S 546 nN ∧ rgF S 547 pP muP ∧ rgF S 555 nN muN ∧ S.2.2 294 = some (kI 8 (ks_row st_SHA_START)) ∧ S.2.2 295 = some (kI 64 sh_K) ∧ (∃ f, S.2.2 296 = some (kL 3 f)) ∧ (∃ f, S.2.2 297 = some (kL 6 f)) ∧ ∃ f, S.2.2 298 = some (kL 9 f)
set_option maxRecDepth 100000 in
set_option maxHeartbeats 800000 in
theorem l_i12 {l : Launch} {G : ks_G} {d : Nat} {S : ks_S} (hO : S.2.2 290 = some (.inr (19, icL icD))) (hS1 : S.1 = 291) {P9 : Option Value → ks_S → Prop} (hk : ∀ S1, icR S S1 icV → ks_X l G mX16_init (d + 3) 2958 [(0, .ref 290)] [] S1 P9) : ks_X l G mX16_init (d + 3) 0 [(0, .ref 290)] [] S P9 := by
  refine l_i11 hO hS1 (fun S1 h => ?_)
  obtain ⟨h1, h2, h3, h4, h5, h6, h7, h8, h9⟩ := h
  refine l_inP (d := d + 1) (S := S1) h3 (fun S2 F8 F9 u e4 e5 e6 e7 e8 i8 i9 => ?_) 310 2 S1 (fun _ => 0) (fun _ => 0) rfl (by decide) ⟨rfl, rfl, fun _ _ => rfl⟩ (h4 294 (by decide) (by decide)) (h4 295 (by decide) (by decide)) ⟨_, h4 296 (by decide) (by decide)⟩ ⟨_, h4 297 (by decide) (by decide)⟩ ⟨_, h4 298 (by decide) (by decide)⟩ (fun j => ⟨fun h => absurd h (Nat.not_lt_zero _), fun _ => rfl⟩) (fun j => ⟨fun h => absurd h (Nat.not_lt_zero _), fun _ => rfl⟩)
  have x8 : F8 = ks_row st_SHA_START := funext fun j => by
    by_cases c : j < 8
    · exact (i8 j).1 c
    · rw [(i8 j).2 (by omega), st_S_z j (by omega)]
  have x9 : F9 = sh_K := funext fun j => by
    by_cases c : j < 64
    · exact (i9 j).1 c
    · rw [(i9 j).2 (by omega), sh_K_z j (by omega)]
  subst x8
  subst x9
  have fr : ∀ a, a < 294 ∨ 298 < a → S2.2.2 a = S1.2.2 a := fun a ha => u.2.2 a (by simp only [List.mem_cons, List.not_mem_nil, or_false]; omega)
  exact hk S2 ⟨u.1.trans h1, u.2.1.trans h2, (fr _ (by omega)).trans h3, fun a g1 g2 g3 => (fr a g3).trans (h4 a g1 g2), fun a g => (fr a (by omega)).trans (h5 a g), wA_ag h6 (fr _ (by omega)), wA_ag h7 (fr _ (by omega)), rgF_ag h8 (fun a g1 g2 => fr a (by omega)), rgF_ag h9 (fun a g1 g2 => fr a (by omega)), e4, e5, e6, e7, e8⟩
