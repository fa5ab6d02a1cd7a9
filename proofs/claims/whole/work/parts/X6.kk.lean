/-! JUDGE on both sides: what holds of the blocks and coins; the reference behind a kept block -/
def kkK : lwK := fun n best Bc Br C => (n ≤ 60 ∧ best < n) ∧ (∀ i, bkM (Br i) = bkM (Bc i) ∧ bkH (Br i) = bkH (Bc i)) ∧ (chW n Bc ∧ chS n Bc ∧ chC n Bc ∧ chV n Bc ∧ blV n Bc ∧ chB n Bc ∧ chP n Bc) ∧ tBd n Bc ∧ (∀ b, b < n → inD (bkM (Bc b))) ∧ (rbH n Br ∧ rbD n Br) ∧ (∀ i, i < n → (bkC (Br i)).isSome = (bkC (Bc i)).isSome) ∧ kcI n Bc ∧ bkC (Bc 0) ≠ none ∧ ∃ r L, bkC (Bc best) = some (r, L) ∧ cRel Bc C (L.map fiC)
theorem kk_A : lwKA kkK := fun n best Bc Br C hK => by
  obtain ⟨⟨hn, hb⟩, hm, ⟨-, -, cC, -, bV, -, -⟩, -, -, -, -, -, -, r, L, e, hr⟩ := hK
  have hg : ∀ x ∈ L, cnG n Bc x := cC best (r, L) hb e
  have q := kc_sum hm bV hn hg hr
  exact ⟨r, L, e, q.1, fun i hi => cnG_R bV hn (hg _ (mem_gd.mpr ⟨i, hi, rfl⟩)), q.2, fun _ _ _ => trivial⟩
theorem kk_B : lwKB kkK := fun n best Bc Br C hK => by
  obtain ⟨⟨hn, hb⟩, hm, ⟨cW, -, -, cV, -, -, -⟩, tB, -, ⟨rH, -⟩, -⟩ := hK
  exact ⟨cW, cV, rH, fun i hi => (tB i hi).2.2.1, fun i hi => by have := (due_b tB hn hi).1; omega⟩
theorem kk_C : lwKC kkK := fun n best Bc Br C hK => by
  obtain ⟨⟨hn, hb⟩, hm, ⟨-, -, cC, -, bV, -, -⟩, -, -, -, -, -, -, r, L, e, hr⟩ := hK
  have hg : ∀ x ∈ L, cnG n Bc x := cC best (r, L) hb e
  have q := kc_sum hm bV hn hg hr
  refine ⟨r, L, e, fun i hi => cnG_R bV hn (hg _ (mem_gd.mpr ⟨i, hi, rfl⟩)), q.2, fun x t xn ix hx ht ei hxn => ?_⟩
  rw [ei, (hm x).1]
  exact kc_look hm bV hn hg hr hxn
/-- connecting leaves at most 400 coins -/
theorem rchF_len {Gp : Pt} {n : Nat} {Q : List Nat → Prop} : ∀ (l : List Nat) (B : Nat → Bk) (R : List Nat), (∀ B', eqB B B' → ∀ b, b ∈ l → cnQ B' b Q) → Q R → R.length ≤ 400 → (rchF Gp n l B R).1 = 0 → Q (rchF Gp n l B R).2.1 ∧ (rchF Gp n l B R).2.1.length ≤ 400
  | [], _, _, _, h1, h2, _ => ⟨h1, h2⟩
  | b :: l, B, R, hQ, h1, h2, h3 => by
    have h3' := h3
    unfold rchF at h3 ⊢
    by_cases c : (rcF Gp (bkC (B b)).isSome B (bkM (B b)) b (bkH (B b)) (mg (bkM (B b)) 80) 0 R 0).1 = 0
    · rw [if_pos c] at h3 ⊢
      have q := rcF_Q (Gp := Gp) (ck := (bkC (B b)).isSome) (hQ B (eqB.rf B) b List.mem_cons_self) (mg (bkM (B b)) 80) 0 R 0 _ (by omega) h1 h2 (Prod.ext c rfl)
      exact rchF_len l (ckB B b) _ (fun B' e x hx => hQ B' ((eqB.ck B b).trans e) x (List.mem_cons_of_mem _ hx)) q.1 q.2 h3
    · rw [if_neg c] at h3
      exact absurd h3 c
/-- of a block that is judged good -/
theorem in_good {B : Nat → Bk} {n : Nat} {T : List Nat} (h : inF B n T = nI 0) : blk_ (mg T) T.length = true ∧ tg_num (btB T) ≠ 0 ∧ 0 < inQ B n T ∧ rhF B T (inQ B n T - 1) = 0 ∧ rtF T (bkH (B (inQ B n T - 1)) + 1) = 0 := by
  unfold inF at h
  split at h
  · exact absurd (nI_20 1 (by decide) 0 (by decide) h) (by decide)
  · next h1 =>
    split at h
    · exact absurd h.symm (nI_20m 0 (by decide)).1
    · split at h
      · exact absurd (nI_20 2 (by decide) 0 (by decide) h) (by decide)
      · next h3 =>
        split at h
        · exact absurd h.symm (nI_20m 0 (by decide)).2
        · next h4 =>
          have hl := ffF_lt B T (inQ B n T - 1)
          unfold ffF at hl
          split at h
          · next h5 =>
            rw [if_pos h5] at hl
            exact absurd (nI_20 _ hl 0 (by decide) h) h5
          · next h5 =>
            rw [if_neg h5] at hl
            exact ⟨Bool.not_eq_false _ ▸ h1, (Classical.not_not.mp h3).1, Nat.pos_of_ne_zero h4, Classical.not_not.mp h5, nI_20 _ hl 0 (by decide) h⟩
theorem rh_due {B : Nat → Bk} {T : List Nat} {q : Nat} (h : rhF B T q = 0) (h1 : btB T < 2 ^ 32) (h2 : dueB B q < 2 ^ 32) : bkD (B q) = false ∧ btB T = dueB B q := by
  unfold rhF at h
  split at h
  · cases h
  · next c =>
    split at h
    · next e => exact ⟨by cases hd : bkD (B q) with
        | true => exact absurd hd c
        | false => rfl, (nI_eq32 h1 h2).mp e⟩
    · cases h
/-- the blocks with one more, in the reference -/
theorem kp_all {n p b : Nat} {B : Nat → Bk} {T : List Nat} {D : Bk} (hV : blV n B) (hv : chV n B) (hd : ∀ b, b < n → inD (bkM (B b))) (hT : T.length ≤ 1600 ∧ blk_ (mg T) T.length = true ∧ kO (mg T)) (hM : bkM D = T) (hH : bkH D < 700) (hg : 0 < mg T 80 ∧ ∀ t, t < mg T 80 → fit_b (mg T) T.length (txP T t).2.2.2.1 (txP T t).2.2.1 = true) (hD : inD T) : blV (n + 1) (va_up B n D) ∧ chV (n + 1) (va_up B n D) ∧ ∀ b, b < n + 1 → inD (bkM (va_up B n D b)) := by
  refine ⟨fun i hi => ?_, hv.keep (by rw [hM]; exact ⟨hH, hg.1, hg.2⟩), fun i hi => ?_⟩
  · by_cases c : i = n
    · rw [c, va_up_self, hM]; exact hT
    · rw [va_up_ne _ _ c]; exact hV i (by omega)
  · by_cases c : i = n
    · rw [c, va_up_self, hM]; exact hD
    · rw [va_up_ne _ _ c]; exact hd i (by omega)
theorem blV_e {n : Nat} {B B' : Nat → Bk} (h : blV n B) (e : ∀ i, bkM (B' i) = bkM (B i) ∧ bkH (B' i) = bkH (B i)) : blV n B' := fun i hi => by rw [(e i).1]; exact h i hi
theorem chV_e {n : Nat} {B B' : Nat → Bk} (h : chV n B) (e : ∀ i, bkM (B' i) = bkM (B i) ∧ bkH (B' i) = bkH (B i)) : chV n B' := fun i hi => by rw [(e i).1, (e i).2]; exact h i hi
theorem rb_lt {S : ks_S} {n : Nat} {B : Nat → Bk} (h : rbS S n B) (nw : nwS S) : ∀ i, i < n → bkN (B i) + 11 < S.1 := fun i hi => by
  obtain ⟨-, -, -, ⟨gw, h3, -⟩, -, h5⟩ := h.2.1 i hi
  rcases Nat.lt_or_ge (bkN (B i) + 11) S.1 with w | w
  · exact w
  · rw [nw _ w (by omega)] at h3
    cases h3
theorem rbD_k {S : ks_S} {n : Nat} {B : Nat → Bk} {k : Bk} (h : rbD n B) (rb : rbS S n B) (nw : nwS S) (hk : bkN k = S.1) : rbD (n + 1) (va_up B n k) := fun i j hi hj hij => by
  have l := rb_lt rb nw
  by_cases c : i = n
  · by_cases c2 : j = n
    · omega
    · rw [c, va_up_self, va_up_ne _ _ c2, hk]
      have := l j (by omega)
      omega
  · by_cases c2 : j = n
    · rw [c2, va_up_self, va_up_ne _ _ c, hk]
      have := l i (by omega)
      omega
    · rw [va_up_ne _ _ c, va_up_ne _ _ c2]
      exact h i j (by omega) (by omega) hij
theorem LCx_b : ∀ x ∈ LCx, 290 ≤ x ∧ x < 565 := by decide
theorem LKp_b : ∀ x ∈ LKp, 290 ≤ x ∧ x < 565 := by decide
/-- frames of a kept block and of the chain -/
theorem fr_kp {S S2 : ks_S} {V V2 : Nat → Value} {n : Nat} {bf : Nat → Option Nat} {M : List Nat} {p h W : Nat} (k : kpE S S2 V V2 n bf M p h W) : frS rfN S S2 := fun a e h1 h2 _ => k.2.1 a e h1 (fun hm => h2 (mem_rfN.mpr (LKp_b a hm)))
theorem fr_ch {S S2 S3 : ks_S} {V V2 V3 : Nat → Value} {F F3 n : Nat} {B : Nat → Bk} {k : Bk} (f : frS rfN S S2) (nw : nwS S) (hz : S.1 < ks_B) (hk : bkN k = S.1) (r : rchK (n + 1) (va_up B n k) S2 S3 V2 V3 F F3) : frS (nmL n B ++ rfN) S S3 := fun a e h1 h2 h3 => by
  have a1 := f a e h1 (fun hm => h2 (List.mem_append_right _ hm)) h3
  refine r.1.2 a e a1 (fun hm => ?_) h3
  rcases List.mem_cons.mp hm with h | h
  · exact h2 (List.mem_append_right _ (mem_rfN.mpr (by omega)))
  · rcases List.mem_append.mp h with h | h
    · obtain ⟨i, hi, e9⟩ := List.mem_map.mp h
      have hi := List.mem_range.mp hi
      change bkN (va_up B n k i) = a at e9
      by_cases c : i = n
      · rw [c, va_up_self, hk] at e9
        rw [← e9, nw _ (Nat.le_refl _) hz] at h1
        cases h1
      · rw [va_up_ne _ _ c] at e9
        exact h2 (List.mem_append_left _ (List.mem_map.mpr ⟨i, List.mem_range.mpr (by omega), e9⟩))
    · exact h2 (List.mem_append_right _ (mem_rfN.mpr (LCx_b a h)))
/-- the reference with a block more -/
theorem rqS.kp {S S2 : ks_S} {V V2 : Nat → Value} {F n best : Nat} {B : Nat → Bk} {C R : List Nat} {t : Nat} {D : Nat → dTx} {T T0 : List Nat} {q : Nat} {dt : Int64} {rs : Nat} {bf : Nat → Option Nat} {p h W : Nat} (hR : rqS S V F n best B C R t D T q dt rs) (hbn : ∀ i, n ≤ i → bf i = none) (k : kpZ S S2 V V2 n F gpG B bf T0 p h W) : rqS S2 V2 F (n + 1) best (va_up B n (S.1, T0, p, h, W, false, none)) C R t D T q dt rs := by
  obtain ⟨⟨⟨n2, s2, nw2⟩, fr2, ⟨o2, x47, vk2⟩, -, c341, -, w338, w339, w340, w358⟩, mq2, rb2⟩ := id k
  obtain ⟨hW, -, hrb, ⟨v47, v48, hbe⟩, ⟨⟨fC, eC, hC⟩, v50, lC, mC⟩, ⟨⟨fR, eR, hRr⟩, v52, lR, mR⟩, ⟨hD, v94⟩, ⟨v110, gT, eT, kT, lT, mT⟩, ⟨v92, hq, v93⟩, v55, h565⟩ := hR
  have f2 : frS LKp S S2 := fun a e h1 h2 _ => fr2 a e h1 h2
  have W2 : rqW S2 V2 F gpG := hW.mqb f2 mq2 (by decide) (by decide) (by decide) (fun p hp hm => by
    have : ∀ p ∈ shL, p.1 ∈ LKp → p.1 = 305 ∨ p = (338, 3, 8) ∨ p = (339, 3, 8) ∨ p = (340, 3, 8) ∨ p = (358, 3, 8) := by decide
    rcases this p hp hm with e | rfl | rfl | rfl | rfl
    · exact Or.inl e
    · exact Or.inr (Or.inr (Or.inr w338))
    · exact Or.inr (Or.inr (Or.inr w339))
    · exact Or.inr (Or.inr (Or.inr w340))
    · exact Or.inr (Or.inr (Or.inr w358)))
  have vk : ∀ j, j = 48 ∨ j = 50 ∨ j = 52 ∨ j = 55 ∨ j = 92 ∨ j = 93 ∨ j = 94 ∨ j = 110 → V2 j = V j := fun j hj => vk2 j (by omega)
  refine ⟨W2, ⟨_, c341, fun i hi => ?_⟩, rb2, ⟨x47, (vk 48 (by decide)).trans v48, by omega⟩, ⟨⟨fC, fr2 _ _ eC (by decide), hC⟩, (vk 50 (by decide)).trans v50, lC, fun x hx => rmK_up (mC x hx)⟩, ⟨⟨fR, fr2 _ _ eR (by decide), hRr⟩, (vk 52 (by decide)).trans v52, lR, fun x hx => rmK_up (mR x hx)⟩, ⟨hD.fr (fun a e h1 h2 h3 => fr2 a e h1 (fun hm => by
    have : ∀ x ∈ LKp, x < 373 := by decide
    have := this a hm
    omega)), (vk 94 (by decide)).trans v94⟩, ⟨(vk 110 (by decide)).trans v110, gT, fr2 _ _ eT (by decide), kT, lT, mT⟩, ⟨(vk 92 (by decide)).trans v92, by omega, (vk 93 (by decide)).trans v93⟩, (vk 55 (by decide)).trans v55, by omega⟩
  rw [va_up_ne _ _ (by omega)]
  exact hbn i (by omega)
/-- the reference behind its chain -/
theorem rqS.ch {S S3 : ks_S} {V V3 : Nat → Value} {F F3 n best : Nat} {B B3 : Nat → Bk} {C R R3 : List Nat} {t : Nat} {D : Nat → dTx} {T : List Nat} {q : Nat} {dt : Int64} {rs : Nat} (hR : rqS S V F n best B C R t D T q dt rs) (k : rchK n B S S3 V V3 F F3) (h360 : ∃ f, S3.2.2 360 = some (kN 61 f)) (rc : rcnS S3 V3 F3 n B3 gpG R3) (hM : ∀ i, bkM (B3 i) = bkM (B i)) : rqS S3 V3 F3 n best B3 C R3 t D T q dt rs := by
  obtain ⟨hW, ⟨bf, e341, hbf⟩, hrb, ⟨v47, v48, hbe⟩, ⟨⟨fC, eC, hC⟩, v50, lC, mC⟩, -, ⟨hD, v94⟩, ⟨v110, gT, eT, kT, lT, mT⟩, ⟨v92, hq, v93⟩, v55, h565⟩ := hR
  obtain ⟨o3, mq3, rb3, r343, v52, lR, mR⟩ := rc
  have nm : ∀ x, x < 565 → x ≠ 360 → x ∉ LCx → x ∉ 360 :: (nmL n B ++ LCx) := fun x h1 h2 h3 hm => by
    rcases List.mem_cons.mp hm with h | h
    · exact h2 h
    · rcases List.mem_append.mp h with h | h
      · obtain ⟨i, hi, e9⟩ := List.mem_map.mp h
        have := (hrb.2.1 i (List.mem_range.mp hi)).2.2.2.2.1
        change bkN (B i) = x at e9
        omega
      · exact h3 h
  have mm : ∀ x ∈ 360 :: (nmL n B ++ LCx), 565 ≤ x ∨ x = 360 ∨ x ∈ LCx := fun x hm => by
    rcases List.mem_cons.mp hm with h | h
    · exact Or.inr (Or.inl h)
    · rcases List.mem_append.mp h with h | h
      · obtain ⟨i, hi, e9⟩ := List.mem_map.mp h
        have := (hrb.2.1 i (List.mem_range.mp hi)).2.2.2.2.1
        change bkN (B i) = x at e9
        exact Or.inl (by omega)
      · exact Or.inr (Or.inr h)
  have W3 : rqW S3 V3 F3 gpG := hW.mqb k.1.2 mq3 (nm _ (by decide) (by decide) (by decide)) (fun x hx => by
      rcases mm x hx with h | h | h
      · omega
      · omega
      · have : ∀ x ∈ LCx, x < 346 ∨ 353 < x := by decide
        exact this x h) (fun x hx => by
      rcases mm x hx with h | h | h
      · omega
      · omega
      · have : ∀ x ∈ LCx, x < 534 ∨ 540 < x := by decide
        exact this x h) (fun p hp hm => by
      have h1 : ∀ p ∈ shL, p.1 < 565 := by decide
      have h2 : ∀ p ∈ shL, p.1 ∈ LCx → p.1 = 305 ∨ p.1 = 336 ∨ p.1 = 370 := by decide
      have h4 : ∀ p ∈ shL, p.1 = 360 → p = (360, 1, 61) := by decide
      rcases mm _ hm with h | h | h
      · have := h1 p hp; omega
      · rw [h4 p hp h]
        exact Or.inr (Or.inr (Or.inr h360))
      · rcases h2 p hp h with e | e | e
        · exact Or.inl e
        · exact Or.inr (Or.inl e)
        · exact Or.inr (Or.inr (Or.inl e)))
  have at3 : ∀ a e, S.2.2 a = some e → a < 565 → a ≠ 360 → a ∉ LCx → (∀ g, e ≠ kB 520 g) → S3.2.2 a = some e := fun a e h1 h2 h3 h4 h5 => k.1.2 a e h1 (nm a h2 h3 h4) h5
  refine ⟨W3, ⟨bf, at3 _ _ e341 (by decide) (by decide) (by decide) (fun g h => by cases h), hbf⟩, rb3, ⟨(k.2 47 (by decide)).trans v47, (k.2 48 (by decide)).trans v48, hbe⟩, ⟨⟨fC, at3 _ _ eC (by decide) (by decide) (by decide) (fun g h => by cases h), hC⟩, (k.2 50 (by decide)).trans v50, lC, fun x hx => ⟨(mC x hx).1, by rw [hM]; exact (mC x hx).2.1, by rw [hM]; exact (mC x hx).2.2⟩⟩, ⟨r343, v52, lR, mR⟩, ⟨hD.fr (fun a e h1 h2 h3 => at3 a e h1 (by omega) (by omega) (fun hm => by
    have : ∀ x ∈ LCx, x < 374 ∨ 528 < x := by decide
    have := this a hm
    omega) (fun g eg => by
    obtain ⟨e', h4, h5⟩ := hW.2.2.1 a (by omega)
    rw [h1] at h4
    exact h5 g ((Option.some.inj h4).symm.trans eg))), (k.2 94 (by decide)).trans v94⟩, ⟨(k.2 110 (by decide)).trans v110, gT, at3 _ _ eT (by decide) (by decide) (by decide) (no52_ne rfl), kT, lT, mT⟩, ⟨(k.2 92 (by decide)).trans v92, hq, (k.2 93 (by decide)).trans v93⟩, (k.2 55 (by decide)).trans v55, ?_⟩
  have := k.1.1.2.2
  omega
