/-! CHAIN: connect, the whole -/
theorem bkK.ex {S S1 : ks_S} {b : Bk} {L : List Nat} (h : bkK S b) (hu : ks_ex S S1 L) (hL : ∀ x ∈ L, x < bkN b ∨ bkN b + 4 < x) (hT : bkN b + 5 ≤ S.1) (hc : ∀ c, bkC b = some c → c.1 < S.1 ∧ c.1 ∉ L) : bkK S1 b := by
  obtain ⟨g1, f2, g3, g4, ⟨q1, q2, q3, q4, q5, q6⟩, h2, h3, h4, h5, h6, h7, h8⟩ := h
  have n : ∀ x, bkN b ≤ x → x ≤ bkN b + 4 → x ∉ L := fun x a b hx => by have := hL x hx; omega
  exact ⟨g1, f2, g3, g4, ⟨hu.at q1 (n _ (by omega) (by omega)) (by omega), hu.at q2 (n _ (by omega) (by omega)) (by omega), hu.at q3 (n _ (by omega) (by omega)) (by omega), hu.at q4 (n _ (by omega) (by omega)) (by omega), hu.at q5 (n _ (by omega) (by omega)) (by omega), q6⟩, h2, h3, h4, h5, h6, h7, fun c hq => ⟨hu.at (h8 c hq).1 (hc c hq).2 (Or.inl (hc c hq).1), (h8 c hq).2⟩⟩
/-- names lie below what was made -/
def chT (S : ks_S) (n : Nat) (B : Nat → Bk) : Prop := 64 ≤ S.1 ∧ S.1 < ks_B ∧ ∀ i, i < n → bkN (B i) + 5 ≤ S.1 ∧ ∀ c, bkC (B i) = some c → c.1 < S.1
theorem chT.up {S S1 : ks_S} {n : Nat} {B : Nat → Bk} {L : List Nat} (h : chT S n B) (hu : ks_up S S1 L) : chT S1 n B := by
  unfold chT
  rw [hu.1]
  exact h
theorem fitM {B : Nat → Bk} {b t : Nat} (h : fit_b (mg (bkM (B b))) (bkM (B b)).length (txP (bkM (B b)) t).2.2.2.1 (txP (bkM (B b)) t).2.2.1 = true) : vaM (bkM (B b)) t ≤ 2100000000000000 := (of_decide_eq_true h).2
theorem fcF_le {B : Nat → Bk} {M : List Nat} {t h : Nat} {L : List Nat} : ∀ {u i s : Nat}, (fcF B M t h L u i s).1 ≤ 13
  | 0, i, s => Nat.zero_le _
  | u + 1, i, s => by
    unfold fcF
    split
    · show 11 ≤ 13; decide
    · split
      · show 12 ≤ 13; decide
      · split
        · show 13 ≤ 13; decide
        · exact fcF_le
theorem sh_k : ∀ k, k < 63 → (((nI k).toInt64 &&& 63).toBitVec.smod 64).toNat = k := by decide +kernel
theorem sh_half {k : Nat} (h : k < 63) : lN 5000000000 >>> ((nI k).toInt64 &&& 63) = lN (5000000000 / 2 ^ k) := pf_shr (sh_k k h) (by decide)
theorem chX.ex {S S1 : ks_S} {n best : Nat} {cc : Int32} {tk : Int64} {B : Nat → Bk} {L : List Nat} (h : chX S n best cc tk B) (hT : chT S n B) (hu : ks_ex S S1 L) (hL : ∀ x ∈ L, x < 56 ∧ x ≠ 41 ∧ x ≠ 42) : chX S1 n best cc tk B := by
  obtain ⟨h1, ⟨bf, h2, h3⟩, h4, h5⟩ := h
  refine ⟨hu.at h1 (fun q => (hL _ q).2.1 rfl) (Or.inl (by have := hT.1; omega)), ⟨bf, hu.at h2 (fun q => (hL _ q).2.2 rfl) (Or.inl (by have := hT.1; omega)), h3⟩, fun i hi => (h4 i hi).ex hu (fun x hx => ?_) (hT.2.2 i hi).1 (fun c hc => ⟨(hT.2.2 i hi).2 c hc, fun q => ?_⟩), h5⟩
  · have := hL x hx
    obtain ⟨g1, f2, g3, g4, q, -⟩ := h4 i hi
    have := q.2.2.2.2.2.2.2.2.2
    omega
  · obtain ⟨g1, f2, g3, g4, -, -, -, -, -, -, -, q8⟩ := h4 i hi
    have := (q8 c hc).2.2.1
    have := hL _ q
    omega
theorem mcZ_ext {S S1 : ks_S} (h : S.2.2 = S1.2.2) (hz : mcZ S) : mcZ S1 := by
  obtain ⟨a, b, f⟩ := S
  obtain ⟨a1, b1, f1⟩ := S1
  have h : f = f1 := h
  subst h
  simp only [mcZ, mcW, cuI, cuX, cvX, scX, fdX, hs_ok, bfS, st_ok, stX] at hz ⊢
  exact hz
theorem cn_fin {S : ks_S} {n best b : Nat} {cc : Int32} {tk : Int64} {B : Nat → Bk} {L : List Nat} {g : Nat → Nat} (hT : chT S n B) (hS : chS n B) (hb : b < n) (hX : chX S n best cc tk B) (hl : L.length ≤ 400) (hg : g = fun i => L.getD i 0) : chX (ks_set (ks_add S L.length (kN L.length g)) (bkN (B b)) (bkO (setC (B b) (some (S.1, L))))) n best cc tk (va_up B b (setC (B b) (some (S.1, L)))) := by
  have X1 := hX.ex hT (ks_ex_add S L.length (kN L.length g) [] hT.2.1) (fun x hx => absurd hx List.not_mem_nil)
  have e0 : (ks_add S L.length (kN L.length g)).2.2 S.1 = some (kN L.length g) := ks_add_new _ _ _
  have hTb := hT.2.2 b hb
  obtain ⟨h1, ⟨bf, h2, h3⟩, h4, h5⟩ := X1
  have b56 : 56 ≤ bkN (B b) := by
    obtain ⟨g1, f2, g3, g4, q, -⟩ := h4 b hb
    exact q.2.2.2.2.2.2.2.2.2
  refine ⟨(ks_set_ne _ _ (by omega)).trans h1, ⟨bf, (ks_set_ne _ _ (by omega)).trans h2, fun i hi => ?_⟩, fun i hi => ?_, h5⟩
  · by_cases e : i = b
    · subst e; rw [va_up_self]; exact h3 i hi
    · rw [va_up_ne _ _ e]; exact h3 i hi
  · by_cases e : i = b
    · subst e
      rw [va_up_self]
      obtain ⟨g1, f2, g3, g4, ⟨q1, q2, q3, q4, q5, q6⟩, r2, r3, r4, r5, r6, r7, r8⟩ := h4 i hi
      refine ⟨g1, f2, g3, g4, ⟨ks_set_same _ _ _, (ks_set_ne _ _ (by show bkN (B i) + 1 ≠ _; omega)).trans q2, (ks_set_ne _ _ (by show bkN (B i) + 2 ≠ _; omega)).trans q3, (ks_set_ne _ _ (by show bkN (B i) + 3 ≠ _; omega)).trans q4, (ks_set_ne _ _ (by show bkN (B i) + 4 ≠ _; omega)).trans q5, q6⟩, r2, r3, r4, r5, r6, r7, fun c hc => ?_⟩
      have hc : some (S.1, L) = some c := hc
      cases hc
      refine ⟨(ks_set_ne _ _ (by show S.1 ≠ _; omega)).trans ?_, hT.2.1, ?_, hl⟩
      · rw [e0, hg]
      · show 56 ≤ S.1; have := hT.1; omega
    · rw [va_up_ne _ _ e]
      exact (h4 i hi).set2 (by have := hS.1 i b hi hb e; omega) (fun c hc => by have := hS.2 i b c hi hb hc; omega)
theorem cn_mcZ {S : ks_S} {k b : Nat} {e e2 : ks_E} (h : mcZ S) (hS : 64 ≤ S.1) (hb : 56 ≤ b) : mcZ (ks_set (ks_add S k e) b e2) := by
  have u1 : ks_up S (S.1, S.2.1, (ks_set (ks_add S k e) b e2).2.2) [S.1, b] := ⟨rfl, rfl, fun a ha => by
    simp only [List.mem_cons, List.not_mem_nil, or_false, not_or] at ha
    exact (ks_set_ne _ _ ha.2).trans (ks_add_ne _ _ _ ha.1)⟩
  exact mcZ_ext (S := (S.1, S.2.1, (ks_set (ks_add S k e) b e2).2.2)) rfl (h.up u1 (fun x hx => by
    simp only [List.mem_cons, List.not_mem_nil, or_false] at hx
    right
    omega))
theorem cn_tvR {S : ks_S} {k b : Nat} {e e2 : ks_E} (h : tvR S) (hS : 64 ≤ S.1) (hb : 56 ≤ b) : tvR (ks_set (ks_add S k e) b e2) := by
  have u1 : ∀ a, a < 56 → (ks_set (ks_add S k e) b e2).2.2 a = S.2.2 a := fun a ha => (ks_set_ne _ _ (by omega)).trans (ks_add_ne _ _ _ (by omega))
  obtain ⟨vy, i1, i2, i9, x, fA, fS, fZ, hA, hS, hZ, c0, c1, c2, c3, c4, c5, c6⟩ := h
  exact ⟨vy, i1, i2, i9, x, fA, fS, fZ, hA, hS, hZ, (u1 _ (by decide)).trans c0, (u1 _ (by decide)).trans c1, (u1 _ (by decide)).trans c2, (u1 _ (by decide)).trans c3, (u1 _ (by decide)).trans c4, (u1 _ (by decide)).trans c5, (u1 _ (by decide)).trans c6⟩
set_option maxRecDepth 100000 in
set_option maxHeartbeats 800000 in
theorem c_ch_connect {l : Launch} {G : ks_G} {d : Nat} {S : ks_S} {n best : Nat} {cc : Int32} {tk : Int64} {B : Nat → Bk} (hX : chX S n best cc tk B) {b q r : Nat} {L0 : List Nat} {f50 f51 : Nat → Nat} (hma : mathOK) (hK : ks_stOK S) (hS : chS n B) (hT : chT S n B) (hb : b < n) (hq : bkP (B b) = q + 1) (hqn : q < n) (hcq : bkC (B q) = some (r, L0)) (hG0 : ∀ x ∈ L0, cnG n B x) (hfit : ∀ b t, b < n → t < mg (bkM (B b)) 80 → fit_b (mg (bkM (B b))) (bkM (B b)).length (txP (bkM (B b)) t).2.2.2.1 (txP (bkM (B b)) t).2.2.1 = true) (hZ : mcZ S) (hR : tvR S) (h50 : S.2.2 50 = some (kN 580 f50)) (h51 : S.2.2 51 = some (kN 40 f51)) (hhei : ∀ i, i < n → bkH (B i) < 700) (hcpos0 : 0 < mg (bkM (B b)) 80) (hcb : bkC (B b) = none) : ks_P l G yX2_connect mX2_connect (d + 8) [.ref 41, .int (nI b)] S (fun z S' => z = some (.int (nI (cnF B (bkM (B b)) b (bkH (B b)) (mg (bkM (B b)) 80) 0 L0 0).1)) ∧ ks_ex S S' (LCn ++ [bkN (B b)]) ∧ (S'.1 ≤ S.1 + 1 ∧ S'.2.1 ≤ S.2.1 + 400) ∧ mcZ S' ∧ tvR S' ∧ (∃ f, S'.2.2 50 = some (kN 580 f)) ∧ (∃ f, S'.2.2 51 = some (kN 40 f)) ∧ ((cnF B (bkM (B b)) b (bkH (B b)) (mg (bkM (B b)) 80) 0 L0 0).1 ≠ 0 → S'.1 = S.1 ∧ ∃ cc tk, chX S' n best cc tk B) ∧ ((cnF B (bkM (B b)) b (bkH (B b)) (mg (bkM (B b)) 80) 0 L0 0).1 = 0 → S'.1 = S.1 + 1 ∧ (cnF B (bkM (B b)) b (bkH (B b)) (mg (bkM (B b)) 80) 0 L0 0).2.length ≤ 400 ∧ (∀ x ∈ (cnF B (bkM (B b)) b (bkH (B b)) (mg (bkM (B b)) 80) 0 L0 0).2, cnG n B x) ∧ ∃ cc tk, chX S' n best cc tk (va_up B b (setC (B b) (some (S.1, (cnF B (bkM (B b)) b (bkH (B b)) (mg (bkM (B b)) 80) 0 L0 0).2)))))) := by
  have hn60 := hX.2.2.2
  obtain ⟨RR, hRR⟩ : ∃ R, cnF B (bkM (B b)) b (bkH (B b)) (mg (bkM (B b)) 80) 0 L0 0 = R := ⟨_, rfl⟩
  rw [hRR]
  obtain ⟨g1, f2, g3, g4, ob, leb, egb, blb, stb, idb, hsb, cob⟩ := hX.2.2.1 b hb
  have b56 := ob.2.2.2.2.2.2.2.2.2
  have b9 := blk_b blb
  have hh20 := hhei b hb
  have hhei30 : ∀ i, i < n → bkH (B i) < 2 ^ 30 := fun i hi => by have := hhei i hi; omega
  obtain ⟨M, hM⟩ : ∃ M, bkM (B b) = M := ⟨_, rfl⟩
  obtain ⟨h, hh⟩ : ∃ h, bkH (B b) = h := ⟨_, rfl⟩
  have f2e : ∀ t, t ≤ mg M 80 → f2 t = bsP M t := fun t ht => by
    rw [← hM] at ht ⊢
    have q9 := stb t ht
    unfold bsP
    rw [q9]
    rfl
  have l56 : ∀ x ∈ LCn, x < 56 := by decide
  have upb : ∀ S1 : ks_S, ks_up S S1 LCn → bkX S1 (bkN (B b)) (nI (bkM (B b)).length) (nI (mg (bkM (B b)) 80)) (nI (bkP (B b)) - 1) (nI (bkH (B b))) (lN (bkW (B b))) (bkD (B b)) (bkCv (bkC (B b))) g1 f2 g3 g4 := fun S1 hu => ob.up hu (fun x hx => by have := l56 x hx; omega)
  obtain ⟨c, hc⟩ : ∃ c, mg (bkM (B b)) 80 = c := ⟨_, rfl⟩
  have hcpos : 0 < c := by omega
  have loop : ∀ (u t : Nat) (S1 : ks_S) (L1 : List Nat) (left fi : Nat), t + u = c → ks_up S S1 LCn → cnE S1 n best B L1 → L1.length ≤ 400 → (∀ x ∈ L1, cnG n B x) → left ≤ t * 2100000000000000 → fi = (if t = 0 then 0 else vaM (bkM (B b)) 0) → cnF B (bkM (B b)) b (bkH (B b)) u t L1 left = RR → ks_X l G mX2_connect (d + 8) 23 [(0, .ref 41), (1, .int (nI b)), (2, .ref (bkN (B b))), (3, .long (lN fi)), (5, .long (lN left)), (7, .int (nI t))] [] S1 (fun z S' => z = some (.int (nI RR.1)) ∧ ks_ex S S' (LCn ++ [bkN (B b)]) ∧ (S'.1 ≤ S.1 + 1 ∧ S'.2.1 ≤ S.2.1 + 400) ∧ mcZ S' ∧ tvR S' ∧ (∃ f, S'.2.2 50 = some (kN 580 f)) ∧ (∃ f, S'.2.2 51 = some (kN 40 f)) ∧ (RR.1 ≠ 0 → S'.1 = S.1 ∧ ∃ cc tk, chX S' n best cc tk B) ∧ (RR.1 = 0 → S'.1 = S.1 + 1 ∧ RR.2.length ≤ 400 ∧ (∀ x ∈ RR.2, cnG n B x) ∧ ∃ cc tk, chX S' n best cc tk (va_up B b (setC (B b) (some (S.1, RR.2)))))) := by
    intro u
    induction u with
    | zero =>
      intro t S1 L1 left fi htu hu hE hl4 hG hlf hfi hr
      obtain ⟨⟨tk1, X1⟩, C1, Z1, R1, f51a, e51⟩ := id hE
      have O1 := X1.1
      have F1 := upb S1 hu
      obtain ⟨f, h50a, hl58, hf5⟩ := id C1
      refine ks_iload dX2_connect_23 rfl rfl ?_
      refine ks_aload_n dX2_connect_25 rfl rfl ?_
      refine ks_getf (T := TX0) (kf := 5) kx_949 rfl in_X0 cl_X0 (by decide) F1.1 rfl dX2_connect_26 rfl ?_
      refine ks_icmp_geN (tgt := 240) (by omega) (by omega) dX2_connect_29 (by decide) rfl (fun h1 => ?_) (fun h1 => ?_)
      · have v0 : fi ≤ 2100000000000000 := by
          rw [hfi]
          split
          · decide
          · exact fitM (hfit b 0 hb (by omega))
        have hcp : 0 < c := hcpos
        have efi : fi = vaM (bkM (B b)) 0 := by rw [hfi, if_neg (by omega)]
        have hdv : 5000000000 / 2 ^ (bkH (B b) / 12) ≤ 5000000000 := Nat.div_le_self _ _
        have hl9 : left ≤ 12 * 2100000000000000 := Nat.le_trans hlf (Nat.mul_le_mul_right _ (by omega))
        rw [cnF, ← efi] at hr
        refine ks_lload_n dX2_connect_240 rfl rfl ?_
        refine ks_ldc2 dX2_connect_241 kx_1727 rfl ?_
        refine ks_tl (y := lN 5000000000) rfl ?_
        refine ks_aload_n dX2_connect_244 rfl rfl ?_
        refine ks_getf (T := TX0) (kf := 7) kx_954 rfl in_X0 cl_X0 (by decide) F1.1 rfl dX2_connect_245 rfl ?_
        refine ks_bipush (x := nI 12) dX2_connect_248 (by decide) rfl ?_
        refine ks_divN (by omega) (by decide) (by decide) dX2_connect_250 rfl ?_
        refine ks_lshr dX2_connect_251 rfl ?_
        refine ks_tl (y := lN (5000000000 / 2 ^ (bkH (B b) / 12))) (sh_half (by omega)) ?_
        refine ks_lload dX2_connect_252 rfl rfl ?_
        refine ks_laddN dX2_connect_254 rfl ?_
        refine ks_lif_leN (tgt := 262) (by omega) (by omega) dX2_connect_255 rfl dX2_connect_256 (by decide) rfl (fun h2 => ?_) (fun h2 => ?_)
        · rw [if_neg (by omega)] at hr
          rw [← hr]
          refine ks_aload_n dX2_connect_262 rfl rfl ?_
          refine ks_aload_n dX2_connect_263 rfl rfl ?_
          refine ks_getf (T := TX2) (kf := 10) kx_744 rfl in_X2 cl_X2 (by decide) O1 rfl dX2_connect_264 rfl ?_
          refine ks_aload_n dX2_connect_267 rfl rfl ?_
          refine ks_getf (T := TX2) (kf := 12) kx_746 rfl in_X2 cl_X2 (by decide) O1 rfl dX2_connect_268 rfl ?_
          refine ks_callS (n := 2) (M' := mJ7_copyOf_59c91) (c_copyOfI (d := d + 6) h50a (by decide) (by rw [hu.1]; have := hT.1; omega) (by omega) (by decide) (by rw [hu.1]; exact hT.2.1)) kx_1044 kx_1045 kx_6 kx_1046 (by decide +kernel) rfl (by decide) (Nat.le_of_ble_eq_true rfl) rfl dX2_connect_271 rfl (fun z1 T1 y1 => ?_)
          obtain ⟨rfl, hT9⟩ := y1
          have eg9 : (fun i => if i < L1.length then f i else 0) = fun i => L1.getD i 0 := by
            funext i
            by_cases e : i < L1.length
            · rw [if_pos e]; exact hf5 i e
            · rw [if_neg e]; simp [List.getD, Nat.le_of_not_lt e]
          rw [eg9] at hT9
          subst hT9
          obtain ⟨g, hg⟩ : ∃ g, g = fun i => L1.getD i 0 := ⟨_, rfl⟩
          rw [← hg]
          have eb : ∀ a, a < S1.1 → (ks_add S1 L1.length (kN L1.length g)).2.2 a = S1.2.2 a := fun a ha => ks_add_ne _ _ _ (by omega)
          have hTb := hT.2.2 b hb
          have e1 : S1.1 = S.1 := hu.1
          have F2 : (ks_add S1 L1.length (kN L1.length g)).2.2 (bkN (B b)) = _ := (eb _ (by omega)).trans F1.1
          refine ks_putf (T := TX0) (kf := 10) kx_959 rfl in_X0 tyX0_ok nmX0 cl_X0 (by decide) F2 (Nat.le_of_ble_eq_true rfl) rfl rfl rfl rfl dX2_connect_274 rfl ?_
          refine ks_iconst (x := nI 0) dX2_connect_277 (by decide) rfl ?_
          refine ks_iret rfl dX2_connect_278 ?_
          have ex1 : ks_ex S1 (ks_add S1 L1.length (kN L1.length g)) (LCn ++ [bkN (B b)]) := ks_ex_add _ _ _ _ (by rw [e1]; exact hT.2.1)
          have ex2 : ks_ex S (ks_add S1 L1.length (kN L1.length g)) (LCn ++ [bkN (B b)]) := (hu.ex.mono (fun x hx => List.mem_append_left _ hx)).trans ex1
          have fin := cn_fin (hT.up hu) hS hb X1 hl4 hg
          refine ⟨rfl, ex2.trans (ks_up_set _ _ (List.mem_append_right _ (List.mem_singleton.mpr rfl))).ex, ?_, ?_, ?_, ⟨f, ?_⟩, ⟨f51a, ?_⟩, fun h9 => absurd rfl h9, fun _ => ⟨by show S1.1 + 1 = S.1 + 1; rw [e1], hl4, hG, nI L1.length, tk1, by rw [← e1]; exact fin⟩⟩
          · exact ⟨by show S1.1 + 1 ≤ S.1 + 1; omega, by show S1.2.1 + L1.length ≤ S.2.1 + 400; have := hu.2.1; omega⟩
          · exact cn_mcZ Z1 (by rw [e1]; exact hT.1) b56
          · exact cn_tvR R1 (by rw [e1]; exact hT.1) b56
          · rw [ks_set_ne _ _ (by omega), eb _ (by rw [e1]; have := hT.1; omega)]; exact h50a
          · rw [ks_set_ne _ _ (by omega), eb _ (by rw [e1]; have := hT.1; omega)]; exact e51
        · refine ks_bipush (x := nI 15) dX2_connect_259 (by decide) rfl ?_
          refine ks_iret rfl dX2_connect_261 ?_
          rw [if_pos (by omega)] at hr
          rw [← hr]
          exact ⟨rfl, hu.ex.mono (fun x hx => List.mem_append_left _ hx), ⟨by rw [hu.1]; omega, by rw [hu.2.1]; omega⟩, Z1, R1, ⟨_, h50a⟩, ⟨_, e51⟩, fun _ => ⟨hu.1, _, _, X1⟩, fun h9 => by cases h9⟩
      · omega
    | succ u ih =>
      intro t S1 L1 left fi htu hu hE hl4 hG hlf hfi hr
      obtain ⟨⟨tk1, X1⟩, C1, Z1, R1, f51a, e51⟩ := id hE
      have O1 := X1.1
      have F1 := upb S1 hu
      obtain ⟨f, h50a, hl58, hf5⟩ := id C1
      refine ks_iload dX2_connect_23 rfl rfl ?_
      refine ks_aload_n dX2_connect_25 rfl rfl ?_
      refine ks_getf (T := TX0) (kf := 5) kx_949 rfl in_X0 cl_X0 (by decide) F1.1 rfl dX2_connect_26 rfl ?_
      refine ks_icmp_geN (tgt := 240) (by omega) (by omega) dX2_connect_29 (by decide) rfl (fun h1 => ?_) (fun h1 => ?_)
      · omega
      · have tc : t < mg (bkM (B b)) 80 := by omega
        have tx6 := bk_tx5 blb tc
        have vt := fitM (hfit b t hb tc)
        rw [cnF] at hr
        obtain ⟨-, -, -, vw9, ji9, vc9, j91, j92, j93, j94, j95, j96, i91, i92, i93, i94, hmo9⟩ := id Z1
        have hob20 : ∃ fs, S1.2.2 20 = some (.inr (13, fs)) := by obtain ⟨vy, i1, i2, i9, x, fA, fS, fZ, hA, hS, hZ, c0, c9⟩ := R1; exact ⟨_, c0⟩
        obtain ⟨fs20, h20⟩ := hob20
        refine ks_aload_n dX2_connect_32 rfl rfl ?_
        refine ks_getf (T := TX2) (kf := 7) kx_741 rfl in_X2 cl_X2 (by decide) O1 rfl dX2_connect_33 rfl ?_
        refine ks_aload_n dX2_connect_36 rfl rfl ?_
        refine ks_getf (T := TX0) (kf := 0) kx_936 rfl in_X0 cl_X0 (by decide) F1.1 rfl dX2_connect_37 rfl ?_
        refine ks_aload_n dX2_connect_40 rfl rfl ?_
        refine ks_getf (T := TX0) (kf := 1) kx_938 rfl in_X0 cl_X0 (by decide) F1.1 rfl dX2_connect_41 rfl ?_
        refine ks_iload dX2_connect_44 rfl rfl ?_
        refine ks_ialdN (i := t) F1.2.2.1 rfl (by omega) (by decide) dX2_connect_46 rfl ?_
        refine ks_aload_n dX2_connect_47 rfl rfl ?_
        refine ks_getf (T := TX0) (kf := 4) kx_946 rfl in_X0 cl_X0 (by decide) F1.1 rfl dX2_connect_48 rfl ?_
        refine ks_callV (n := 3) (M' := mX10_read) (c_readM (d := d + 5) (t := t) F1.2.1 ob.2.2.2.2.2.1 leb egb blb tc (by rw [f2e t (by rw [← hM]; omega), hM]) (by omega) R1) h20 cl_X10 rfl kx_1457 kx_990 kx_991 kx_23 kx_992 (by decide +kernel) rfl (by decide) (Nat.le_of_ble_eq_true rfl) rfl dX2_connect_51 rfl (fun z2 T2 y2 => ?_)
        obtain ⟨⟨v2, rfl⟩, w2, tx2, V2⟩ := y2
        have u2 := hu.trans (w2.mono (by decide))
        have X2 := X1.up w2 (by decide)
        have C2 := C1.up w2 (by decide)
        have Z2 := Z1.up w2 (by decide)
        have F2 := upb T2 u2
        have e51b := w2.at e51 (by decide)
        have ea9 : f2 t = bsP (bkM (B b)) t := by rw [f2e t (by rw [← hM]; omega), hM]
        rw [ea9] at V2
        refine ks_pop dX2_connect_54 rfl rfl ?_
        refine ks_aload_n dX2_connect_55 rfl rfl ?_
        refine ks_getf (T := TX2) (kf := 7) kx_741 rfl in_X2 cl_X2 (by decide) X2.1 rfl dX2_connect_56 rfl ?_
        refine ks_callV (n := 0) (M' := mX10_allValues) (c_tv_allValues (d := d + 5) V2 F2.2.1 ob.2.2.2.2.2.1 leb (by decide)) V2.1 cl_X10 rfl kx_1532 kx_1533 kx_1534 kx_23 kx_1535 (by decide +kernel) rfl (by decide) (Nat.le_of_ble_eq_true rfl) rfl dX2_connect_59 rfl (fun z3 T3 y3 => ?_)
        obtain ⟨rfl, hT3⟩ := y3
        obtain rfl := hT3.symm
        rw [vals_c egb tx6, show sum_ (val_ (mg (bkM (B b))) (bkM (B b)).length (txP (bkM (B b)) t).2.2.2.1) (txP (bkM (B b)) t).2.2.1 = vaM (bkM (B b)) t from rfl]
        have k214 : ∀ (S2 : ks_S) (L2 : List Nat) (left2 : Nat) (tk2 : Int64), ks_up S S2 LCn → chX S2 n best (nI L2.length) tk2 B → coS S2 L2 → L2.length ≤ 400 → (∀ x ∈ L2, cnG n B x) → mcZ S2 → tv_ok S2 (bkN (B b) + 1) g1 (bkM (B b)).length (bsP (bkM (B b)) t) (txP (bkM (B b)) t).1 (txP (bkM (B b)) t).2.1 (txP (bkM (B b)) t).2.2.1 (txP (bkM (B b)) t).2.2.2.1 (txP (bkM (B b)) t).2.2.2.2 → (∃ f, S2.2.2 51 = some (kN 40 f)) → left2 ≤ (t + 1) * 2100000000000000 → (if 400 < (adC B b t (txP (bkM (B b)) t).2.2.1 0 L2).length then (16, L1) else cnF B (bkM (B b)) b (bkH (B b)) u (t + 1) (adC B b t (txP (bkM (B b)) t).2.2.1 0 L2) left2) = RR → ks_X l G mX2_connect (d + 8) 214 [(0, .ref 41), (1, .int (nI b)), (2, .ref (bkN (B b))), (3, .long (lN (vaM (bkM (B b)) 0))), (5, .long (lN left2)), (7, .int (nI t))] [] S2 (fun z S' => z = some (.int (nI RR.1)) ∧ ks_ex S S' (LCn ++ [bkN (B b)]) ∧ (S'.1 ≤ S.1 + 1 ∧ S'.2.1 ≤ S.2.1 + 400) ∧ mcZ S' ∧ tvR S' ∧ (∃ f, S'.2.2 50 = some (kN 580 f)) ∧ (∃ f, S'.2.2 51 = some (kN 40 f)) ∧ (RR.1 ≠ 0 → S'.1 = S.1 ∧ ∃ cc tk, chX S' n best cc tk B) ∧ (RR.1 = 0 → S'.1 = S.1 + 1 ∧ RR.2.length ≤ 400 ∧ (∀ x ∈ RR.2, cnG n B x) ∧ ∃ cc tk, chX S' n best cc tk (va_up B b (setC (B b) (some (S.1, RR.2)))))) := by
          intro S2 L2 left2 tk2 u3 X3 C3 hl3 hG3 Z3 V3 ⟨f51c, e51c⟩ hlf2 hr2
          refine ks_aload_n dX2_connect_214 rfl rfl ?_
          refine ks_iload_n dX2_connect_215 rfl rfl ?_
          refine ks_iload dX2_connect_216 rfl rfl ?_
          refine ks_callV (n := 2) (M' := mX2_addCoins) (c_ch_addCoins (d := d + 5) X3 C3 hl3 (all_getD (fun x hx => (cnG_sc X3.2.2.1 hn60 (hG3 x hx)).1)) hb tc V3 egb) X3.1 cl_X2 rfl kx_1024 kx_1026 kxp_14 kx_26 kx_1027 (by decide +kernel) rfl (by decide) (Nat.le_of_ble_eq_true rfl) rfl dX2_connect_218 rfl (fun z4 T4 y4 => ?_)
          obtain ⟨rfl, w4, X4, C4, len4, -⟩ := y4
          have G4 := adC_G hb tc (txP (bkM (B b)) t).2.2.1 0 L2 (by omega) hG3
          have k180 := (tx_bd tx6).2.1
          have u4 := u3.trans (w4.mono (by decide))
          have Z4 := Z3.up w4 (by decide)
          have V4 := V3.up w4 (by decide)
          have e51d := w4.at e51c (by decide)
          generalize adC B b t (txP (bkM (B b)) t).2.2.1 0 L2 = L3 at *
          refine ks_aload_n dX2_connect_221 rfl rfl ?_
          refine ks_getf (T := TX2) (kf := 12) kx_746 rfl in_X2 cl_X2 (by decide) X4.1 rfl dX2_connect_222 rfl ?_
          refine ks_sipush (x := nI 400) dX2_connect_225 (by decide) rfl ?_
          refine ks_icmp_leN (tgt := 234) (by omega) (by decide) dX2_connect_228 (by decide) rfl (fun h3 => ?_) (fun h3 => ?_)
          · rw [if_neg (by omega)] at hr2
            refine ks_incN (c := 1) (e := t + 1) dX2_connect_234 rfl (by decide) rfl (by decide) rfl ?_
            refine ks_sub [(7, _), (0, _), (1, _), (2, _), (3, _), (5, _)] rfl ?_
            refine ks_goto (tgt := 23) dX2_connect_237 (by decide) ?_
            exact ks_sub [(0, _), (1, _), (2, _), (3, _), (5, _), (7, _)] rfl (ih (t + 1) _ L3 left2 (vaM (bkM (B b)) 0) (by omega) u4 ⟨⟨_, X4⟩, C4, Z4, V4.raw, _, e51d⟩ (by omega) G4 hlf2 (by rw [if_neg (by omega)]) hr2)
          · refine ks_bipush (x := nI 16) dX2_connect_231 (by decide) rfl ?_
            refine ks_iret rfl dX2_connect_233 ?_
            rw [if_pos (by omega)] at hr2
            rw [← hr2]
            obtain ⟨f9, h59, -⟩ := id C4
            exact ⟨rfl, u4.ex.mono (fun x hx => List.mem_append_left _ hx), ⟨by rw [u4.1]; omega, by rw [u4.2.1]; omega⟩, Z4, V4.raw, ⟨_, h59⟩, ⟨_, e51d⟩, fun _ => ⟨u4.1, _, _, X4⟩, fun h9 => by cases h9⟩
        refine ks_lstore dX2_connect_62 (by decide) rfl ?_
        refine ks_sub [(8, _), (0, _), (1, _), (2, _), (3, _), (5, _), (7, _)] rfl ?_
        refine ks_iload dX2_connect_64 rfl rfl ?_
        refine ks_if_neN (tgt := 75) (by omega) dX2_connect_66 (by decide) rfl (fun h2 => ?_) (fun h2 => ?_)
        · rw [if_neg h2] at hr
          have efi : fi = vaM (bkM (B b)) 0 := by rw [hfi, if_neg h2]
          rw [efi]
          refine ks_aload_n dX2_connect_75 rfl rfl ?_
          refine ks_aload_n dX2_connect_76 rfl rfl ?_
          refine ks_getf (T := TX0) (kf := 7) kx_954 rfl in_X0 cl_X0 (by decide) F2.1 rfl dX2_connect_77 rfl ?_
          refine ks_callV (n := 1) (M' := mX2_findCoins) (c_ch_findCoins (d := d + 5) X2 C2 hl4 (all_getD (fun x hx => (cnG_sc X2.2.2.1 hn60 (hG x hx)).1)) (all_getD (fun x hx => cnG_V X2.2.2.1 hn60 hfit (hG x hx))) blb leb tc V2 F2.2.1 ob.2.2.2.2.2.1 (by omega) egb (by omega) hhei30 e51b) X2.1 cl_X2 rfl kx_1536 kx_1538 kxp_33 kx_26 kx_1539 (by decide +kernel) rfl (by decide) (Nat.le_of_ble_eq_true rfl) rfl dX2_connect_80 rfl (fun z5 T5 y5 => ?_)
          obtain ⟨rfl, w5, X5, ff, e51e, hok⟩ := y5
          have u5 := u2.trans (w5.mono (by decide))
          have C5 := C2.up w5 (by decide)
          have Z5 := Z2.up w5 (by decide)
          have V5 := V2.up w5 (by decide)
          have F5 := upb T5 u5
          have r16 := fcF_le (B := B) (M := bkM (B b)) (t := t) (h := bkH (B b)) (L := L1) (u := (txP (bkM (B b)) t).1) (i := 0) (s := 0)
          obtain ⟨fr, hfr⟩ : ∃ r, fcF B (bkM (B b)) t (bkH (B b)) L1 (txP (bkM (B b)) t).1 0 0 = r := ⟨_, rfl⟩
          rw [hfr] at hr X5 hok r16 ⊢
          obtain ⟨f9, h59, -⟩ := id C5
          refine ks_istore dX2_connect_83 (by decide) rfl ?_
          refine ks_sub [(10, _), (0, _), (1, _), (2, _), (3, _), (5, _), (7, _), (8, _)] rfl ?_
          refine ks_iload dX2_connect_85 rfl rfl ?_
          refine ks_if_neN (tgt := 100) (by omega) dX2_connect_87 (by decide) rfl (fun h3 => ?_) (fun h3 => ?_)
          · rw [if_pos h3] at hr
            refine ks_iload dX2_connect_100 rfl rfl ?_
            refine ks_if_eqN (tgt := 110) (by omega) dX2_connect_102 (by decide) rfl (fun h4 => ?_) (fun h4 => ?_)
            · omega
            · refine ks_iload dX2_connect_105 rfl rfl ?_
              refine ks_goto (tgt := 112) dX2_connect_107 (by decide) ?_
              refine ks_iret rfl dX2_connect_112 ?_
              rw [← hr]
              exact ⟨rfl, u5.ex.mono (fun x hx => List.mem_append_left _ hx), ⟨by rw [u5.1]; omega, by rw [u5.2.1]; omega⟩, Z5, V5.raw, ⟨_, h59⟩, ⟨_, e51e⟩, fun _ => ⟨u5.1, _, _, X5⟩, fun h9 => absurd h9 h3⟩
          · rw [if_neg (fun h9 => h9 h3)] at hr
            obtain ⟨s21, hff⟩ := hok h3
            refine ks_aload_n dX2_connect_90 rfl rfl ?_
            refine ks_getf (T := TX2) (kf := 13) kx_747 rfl in_X2 cl_X2 (by decide) X5.1 rfl dX2_connect_91 rfl ?_
            refine ks_lload dX2_connect_94 rfl rfl ?_
            refine ks_lif_geN (tgt := 113) (by omega) (by omega) dX2_connect_96 rfl dX2_connect_97 (by decide) rfl (fun h4 => ?_) (fun h4 => ?_)
            · rw [if_neg (by omega)] at hr
              refine ks_iconst (x := nI 0) dX2_connect_113 (by decide) rfl ?_
              refine ks_istore dX2_connect_114 (by decide) rfl ?_
              refine ks_sub [(11, _), (0, _), (1, _), (2, _), (3, _), (5, _), (7, _), (8, _), (10, _)] rfl ?_
              refine ks_sub [(0, _), (1, _), (2, _), (3, _), (5, _), (7, _), (8, _), (11, _)] rfl ?_
              refine ks_sub [(0, _), (1, _), (2, _), (3, _), (5, _), (7, _), (8, _), (11, _)] rfl (l_cnUnl (h := 0) hma (u5.st hK (by unfold ks_B; decide)) X5 C5 hG Z5 hb tc V5 e51e hff ob.2.2.2.2.2.1 egb F5.2.1 (fun S6 w6 Z6 hex => ?_) (fun S6 w6 Z6 hnx => ?_) (txP (bkM (B b)) t).1 0 T5 (by omega) (ks_up.rf _ _) Z5 (fun k hk => absurd hk (Nat.not_lt_zero k)))
              · rw [if_pos hex] at hr
                rw [← hr]
                have u6 := u5.trans (w6.mono (by decide))
                exact ⟨rfl, u6.ex.mono (fun x hx => List.mem_append_left _ hx), ⟨by rw [u6.1]; omega, by rw [u6.2.1]; omega⟩, Z6, (V5.up w6 (by decide)).raw, ⟨_, w6.at h59 (by decide)⟩, ⟨_, w6.at e51e (by decide)⟩, fun _ => ⟨u6.1, _, _, X5.up w6 (by decide)⟩, fun h9 => by cases h9⟩
              · rw [if_neg hnx] at hr
                have u6 := u5.trans (w6.mono (by decide))
                have X6 := X5.up w6 (by decide)
                have C6 := C5.up w6 (by decide)
                have V6 := V5.up w6 (by decide)
                have F6 := upb S6 u6
                have e51f := w6.at e51e (by decide)
                refine ks_aload_n dX2_connect_198 rfl rfl ?_
                refine ks_callV (n := 0) (M' := mX2_takeCoins) (c_ch_takeCoins (d := d + 7) X6 C6 hl4 (all_getD (fun x hx => (cnG_sc X6.2.2.1 hn60 (hG x hx)).1.1)) V6 e51f (fun i hi => by have := hff i hi; have pb : fiP B (bkM (B b)) t L1 i ≤ L1.length := plL_b; omega)) X6.1 cl_X2 rfl kx_1723 kx_1725 kxp_49 kx_26 kx_1726 (by decide +kernel) rfl (by decide) (Nat.le_of_ble_eq_true rfl) rfl dX2_connect_199 rfl (fun z7 T7 y7 => ?_)
                obtain ⟨rfl, w7, X7, C7⟩ := y7
                rw [mkF_c (f := ff) (g := fun i => fiP B (bkM (B b)) t L1 i - 1) (fun i hi => (hff i hi).2)] at X7 C7
                have u7 := u6.trans (w7.mono (by decide))
                have G7 : ∀ x ∈ tkN (mkF (fun i => fiP B (bkM (B b)) t L1 i - 1) (txP (bkM (B b)) t).1) L1 L1.length, cnG n B x := fun x hx => by
                  obtain ⟨j, hj, rfl⟩ := tkN_mem hx
                  exact hG _ (getD_mem hj)
                have tl := tkN_len (mkF (fun i => fiP B (bkM (B b)) t L1 i - 1) (txP (bkM (B b)) t).1) L1 L1.length
                refine ks_lload dX2_connect_202 rfl rfl ?_
                refine ks_aload_n dX2_connect_204 rfl rfl ?_
                refine ks_getf (T := TX2) (kf := 13) kx_747 rfl in_X2 cl_X2 (by decide) X7.1 rfl dX2_connect_205 rfl ?_
                refine ks_lload dX2_connect_208 rfl rfl ?_
                refine ks_lsubN (by omega) dX2_connect_210 rfl ?_
                refine ks_laddN dX2_connect_211 rfl ?_
                refine ks_lstore dX2_connect_212 (by decide) rfl ?_
                refine ks_sub [(5, _), (0, _), (1, _), (2, _), (3, _), (7, _), (8, _)] rfl ?_
                refine ks_sub [(0, _), (1, _), (2, _), (3, _), (5, _), (7, _)] rfl ?_
                exact ks_sub [(0, _), (1, _), (2, _), (3, _), (5, _), (7, _)] rfl (k214 T7 _ (left + (fr.2 - vaM (bkM (B b)) t)) _ u7 X7 C7 (by omega) G7 (Z6.up w7 (by decide)) (V6.up w7 (by decide)) ⟨_, w7.at e51f (by decide)⟩ (by rw [Nat.succ_mul]; omega) hr)
            · rw [if_pos (by omega)] at hr
              refine ks_iload dX2_connect_100 rfl rfl ?_
              refine ks_if_eqN (tgt := 110) (by omega) dX2_connect_102 (by decide) rfl (fun h5 => ?_) (fun h5 => ?_)
              · refine ks_bipush (x := nI 13) dX2_connect_110 (by decide) rfl ?_
                refine ks_iret rfl dX2_connect_112 ?_
                rw [← hr]
                exact ⟨rfl, u5.ex.mono (fun x hx => List.mem_append_left _ hx), ⟨by rw [u5.1]; omega, by rw [u5.2.1]; omega⟩, Z5, V5.raw, ⟨_, h59⟩, ⟨_, e51e⟩, fun _ => ⟨u5.1, _, _, X5⟩, fun h9 => by cases h9⟩
              · omega
        · subst h2
          rw [if_pos rfl] at hr
          refine ks_lload dX2_connect_69 rfl rfl ?_
          refine ks_lstore_n dX2_connect_71 (by decide) rfl ?_
          refine ks_sub [(3, _), (0, _), (1, _), (2, _), (5, _), (7, _), (8, _)] rfl ?_
          refine ks_goto (tgt := 214) dX2_connect_72 (by decide) ?_
          refine ks_sub [(0, _), (1, _), (2, _), (3, _), (5, _), (7, _)] rfl ?_
          exact ks_sub [(0, _), (1, _), (2, _), (3, _), (5, _), (7, _)] rfl (k214 T2 L1 left tk1 u2 X2 C2 hl4 hG Z2 V2 ⟨_, e51b⟩ (by omega) hr)
  obtain ⟨hO, ⟨bf, h42, hbf⟩, hB, -⟩ := id hX
  refine ks_of (by decide) rfl rfl (Nat.le_of_ble_eq_true rfl) ?_
  show ks_X l G mX2_connect (d + 8) 0 [(0, .ref 41), (1, .int (nI b))] [] S _
  refine ks_aload_n dX2_connect_0 rfl rfl ?_
  refine ks_getf (T := TX2) (kf := 0) kx_729 rfl in_X2 cl_X2 (by decide) hO rfl dX2_connect_1 rfl ?_
  refine ks_iload_n dX2_connect_4 rfl rfl ?_
  refine ks_aaldN (i := b) (b := (bkN (B b))) (by decide) h42 rfl (by omega) (by decide) (hbf b (by omega)) dX2_connect_5 rfl ?_
  refine ks_astore_n dX2_connect_6 (by decide) rfl ?_
  refine ks_sub [(2, _), (0, _), (1, _)] rfl ?_
  refine ks_aload_n dX2_connect_7 rfl rfl ?_
  refine ks_aload_n dX2_connect_8 rfl rfl ?_
  refine ks_getf (T := TX0) (kf := 6) kx_952 rfl in_X0 cl_X0 (by decide) ob.1 rfl dX2_connect_9 rfl ?_
  rw [nI_D (by omega : 0 < bkP (B b)), hq, Nat.add_sub_cancel]
  refine ks_callV (n := 1) (M' := mX2_startFrom) (c_ch_startFrom (d := d + 6) hX hqn hcq h50) hO cl_X2 rfl kx_1527 kx_1529 kxp_32 kx_26 kx_1530 (by decide +kernel) rfl (by decide) (Nat.le_of_ble_eq_true rfl) rfl dX2_connect_12 rfl (fun z1 T1 y1 => ?_)
  obtain ⟨rfl, w1, X1, C1⟩ := y1
  have u1 : ks_up S T1 LCn := w1.mono (by decide)
  have lq : L0.length ≤ 400 := by obtain ⟨-, -, -, -, -, -, -, -, -, -, -, cq⟩ := hB q hqn; exact (cq _ hcq).2.2.2
  refine ks_lconst (x := lN 0) dX2_connect_15 (by decide) rfl ?_
  refine ks_lstore_n dX2_connect_16 (by decide) rfl ?_
  refine ks_sub [(3, _), (0, _), (1, _), (2, _)] rfl ?_
  refine ks_lconst (x := lN 0) dX2_connect_17 (by decide) rfl ?_
  refine ks_lstore dX2_connect_18 (by decide) rfl ?_
  refine ks_sub [(5, _), (0, _), (1, _), (2, _), (3, _)] rfl ?_
  refine ks_iconst (x := nI 0) dX2_connect_20 (by decide) rfl ?_
  refine ks_istore dX2_connect_21 (by decide) rfl ?_
  refine ks_sub [(7, _), (0, _), (1, _), (2, _), (3, _), (5, _)] rfl ?_
  exact ks_sub [(0, _), (1, _), (2, _), (3, _), (5, _), (7, _)] rfl (loop c 0 T1 L0 0 0 (by omega) u1 ⟨⟨_, X1⟩, C1, hZ.up w1 (by decide), hR.up w1 (by decide), _, w1.at h51 (by decide)⟩ lq hG0 (by omega) rfl (by rw [← hc]; exact hRR))
