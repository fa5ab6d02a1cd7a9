/-! THE REFERENCE: chain -/
/-- rows that the machine doesn't use -/
theorem mqB.fr {S S1 : ks_S} {V : Nat → Value} {F : Nat} {Gp : Pt} {L : List Nat} (h : mqB S V F Gp) (hu : ks_up S S1 L) (hL : ∀ x ∈ L, (336 < x ∧ x < 361) ∨ (373 < x ∧ x < 547) ∨ 562 < x) (h2 : ∀ x ∈ L, (∃ e, S.2.2 x = some e ∧ ∀ g, e ≠ kB 520 g) ∧ ∃ e, S1.2.2 x = some e ∧ ∀ g, e ≠ kB 520 g) : mqB S1 V F Gp := by
  obtain ⟨xs, ys, vs, hO, hK, ⟨⟨m1, g5, k5, m2⟩, ⟨g6, k6, m3⟩, ⟨X, m4⟩, ⟨c, m5⟩, m6⟩, hh, h369, hlow, dn, h368⟩ := h
  have n : ∀ a, a ≤ 336 ∨ (361 ≤ a ∧ a ≤ 373) → a ∉ L := fun a h1 hm => by have := hL a hm; omega
  exact ⟨xs, ys, vs, hu.at hO (n _ (by decide)), hK.up hu (fun x hx => by have := hL x hx; omega) (fun x hx => (h2 x hx).1), ⟨⟨m1.sf (sfK.of (F := 0) hu) (fun x hx => by have := hL x hx; omega), g5, k5, hu.at m2 (n _ (by decide))⟩, ⟨g6, k6, hu.at m3 (n _ (by decide))⟩, ⟨X, m4.up hu (n _ (by decide)) rfl⟩, ⟨c, m5.up hu ⟨n _ (by decide), n _ (by decide)⟩ ⟨rfl, rfl, rfl⟩⟩, m6.up hu (fun x hx => by have := hL x hx; omega)⟩, hh.sf (sfK.of (F := 0) hu) (fun x hx => by have := hL x hx; omega), hu.at h369 (n _ (by decide)), hlow.sf (sfK.of (F := 0) hu) (fun x hx => (h2 x hx).2), dn, hu.at h368 (n _ (by decide))⟩
theorem rbS.st {S S1 : ks_S} {n x : Nat} {B : Nat → Bk} {b' : Bk} (h : rbS S n B) (hD : rbD n B) (hx : x < n) (hb' : bkN b' = bkN (B x) ∧ bkM b' = bkM (B x) ∧ bkW b' = bkW (B x)) (hu : ks_up S S1 [bkN (B x)]) (e1 : S1.2.2 (bkN (B x)) = some (rkO b')) : rbS S1 n (va_up B x b') := by
  obtain ⟨⟨bf, h1, h2⟩, h3, h4⟩ := h
  have lo := (h3 x hx).2.2.2.2.1
  refine ⟨⟨bf, hu.at h1 (by rw [List.mem_singleton]; omega), fun i hi => ?_⟩, fun i hi => ?_, h4⟩
  · rw [h2 i hi]
    by_cases e : i = x
    · rw [e, va_up_self, hb'.1]
    · rw [va_up_ne _ _ e]
  · by_cases e : i = x
    · rw [e, va_up_self]
      obtain ⟨q1, q2, ⟨gh, q3, q4⟩, q5, q6, q7⟩ := h3 x hx
      have z1 : pdK S1 (bkN (B x) + 3) (bkN (B x) + 1) 1600 (bkM (B x)) := q2.up hu (fun x hx => by rw [List.mem_singleton] at hx; omega)
      have z2 : S1.2.2 (bkN (B x) + 2) = some (kB 32 gh) := hu.at q3 (by rw [List.mem_singleton]; omega)
      have z3 : wA S1 (bkN (B x) + 11) (bkW (B x)) := q5.up hu (by rw [List.mem_singleton]; omega)
      unfold rkK
      rw [hb'.1, hb'.2.1, hb'.2.2]
      exact ⟨e1, z1, ⟨gh, z2, q4⟩, z3, q6, q7⟩
    · rw [va_up_ne _ _ e]
      exact (h3 i hi).up hu (fun y hy => by rw [List.mem_singleton] at hy; have := hD i x hi hx e; omega)
theorem va_M {B : Nat → Bk} {x : Nat} {b' : Bk} (h : bkM b' = bkM (B x)) (i : Nat) : bkM (va_up B x b' i) = bkM (B i) := by
  by_cases e : i = x
  · rw [e, va_up_self, h]
  · rw [va_up_ne _ _ e]
theorem rcnS.st {S S1 : ks_S} {V : Nat → Value} {F n x : Nat} {B : Nat → Bk} {Gp : Pt} {R : List Nat} {b' : Bk} (h : rcnS S V F n B Gp R) (hD : rbD n B) (hx : x < n) (hb' : bkN b' = bkN (B x) ∧ bkM b' = bkM (B x) ∧ bkW b' = bkW (B x)) (hu : ks_up S S1 [bkN (B x)]) (e1 : S1.2.2 (bkN (B x)) = some (rkO b')) : rcnS S1 V F n (va_up B x b') Gp R := by
  obtain ⟨h1, h2, h3, ⟨f, h4, h5⟩, h6, h7, h8⟩ := h
  obtain ⟨q1, -, -, -, lo, -⟩ := h3.2.1 x hx
  refine ⟨hu.at h1 (by rw [List.mem_singleton]; omega), h2.up hu (fun x hx => by rw [List.mem_singleton] at hx; omega) (fun x hx => ?_) (fun x hx => ?_), h3.st hD hx hb' hu e1, ⟨f, hu.at h4 (by rw [List.mem_singleton]; omega), h5⟩, h6, h7, fun y hy => ?_⟩
  · rw [List.mem_singleton] at hx
    rw [hx]
    exact ⟨_, q1, fun g h => by cases h⟩
  · rw [List.mem_singleton] at hx
    rw [hx]
    exact ⟨_, e1, fun g h => by cases h⟩
  · have := h8 y hy
    unfold rmK at this ⊢
    rw [va_M hb'.2.1]
    exact this
/-- alike but for marks of failing and of coins -/
def eqB (B B' : Nat → Bk) : Prop := ∀ i, bkN (B' i) = bkN (B i) ∧ bkM (B' i) = bkM (B i) ∧ bkP (B' i) = bkP (B i) ∧ bkH (B' i) = bkH (B i) ∧ bkW (B' i) = bkW (B i)
theorem eqB.rf (B : Nat → Bk) : eqB B B := fun _ => ⟨rfl, rfl, rfl, rfl, rfl⟩
theorem eqB.trans {B B1 B2 : Nat → Bk} (h : eqB B B1) (k : eqB B1 B2) : eqB B B2 := fun i => ⟨(k i).1.trans (h i).1, (k i).2.1.trans (h i).2.1, (k i).2.2.1.trans (h i).2.2.1, (k i).2.2.2.1.trans (h i).2.2.2.1, (k i).2.2.2.2.trans (h i).2.2.2.2⟩
theorem eqB.ck (B : Nat → Bk) (b : Nat) : eqB B (ckB B b) := fun i => by
  unfold ckB
  by_cases e : i = b
  · rw [if_pos e, e]; exact ⟨rfl, rfl, rfl, rfl, rfl⟩
  · rw [if_neg e]; exact ⟨rfl, rfl, rfl, rfl, rfl⟩
theorem eqB.bd (B : Nat → Bk) (x : Nat) (v : Bool) : eqB B (va_up B x (bD (B x) v)) := fun i => by
  by_cases e : i = x
  · rw [e, va_up_self]; exact ⟨rfl, rfl, rfl, rfl, rfl⟩
  · rw [va_up_ne _ _ e]; exact ⟨rfl, rfl, rfl, rfl, rfl⟩
theorem eqB.D {n : Nat} {B B' : Nat → Bk} (h : eqB B B') (hD : rbD n B) : rbD n B' := fun i j hi hj hne => by rw [(h i).1, (h j).1]; exact hD i j hi hj hne
theorem eqB.W {n : Nat} {B B' : Nat → Bk} (h : eqB B B') (hW : chW n B) : chW n B' := ⟨(h 0).2.2.1.trans hW.1, fun i h0 hi => by rw [(h i).2.2.1]; exact hW.2 i h0 hi⟩
theorem stL_c {B B' : Nat → Bk} (h : eqB B B') (x : Nat) : ∀ c b, stL B' x c b = stL B x c b
  | 0, b => rfl
  | c + 1, b => by
    show (if x < b then stL B' x c (bkP (B' b) - 1) else b) = _
    rw [(h b).2.2.1, stL_c h x c]
    rfl
/-- from a block up to the first: k is the block's place and one more -/
def upL (B : Nat → Bk) : Nat → Nat → List Nat
  | 0, _ => []
  | f + 1, k => if k = 0 then [] else (k - 1) :: upL B f (bkP (B (k - 1)))
theorem upL_len (B : Nat → Bk) : ∀ f k, (upL B f k).length ≤ f
  | 0, _ => Nat.le_refl _
  | f + 1, k => by
    unfold upL
    split
    · exact Nat.zero_le _
    · have := upL_len B f (bkP (B (k - 1)))
      rw [List.length_cons]; omega
theorem upL_mem {B : Nat → Bk} {n : Nat} (hW : chW n B) : ∀ f k, k ≤ n → ∀ x ∈ upL B f k, x < n
  | 0, _, _, x, hx => absurd hx List.not_mem_nil
  | f + 1, k, hk, x, hx => by
    unfold upL at hx
    split at hx
    · exact absurd hx List.not_mem_nil
    · rcases List.mem_cons.mp hx with h | h
      · omega
      · refine upL_mem hW f _ ?_ x h
        by_cases e : k - 1 = 0
        · rw [e, hW.1]; exact Nat.zero_le _
        · have := (hW.2 (k - 1) (by omega) (by omega)).2; omega
/-- what connecting keeps of the coins -/
def cnQ (B : Nat → Bk) (b : Nat) (Q : List Nat → Prop) : Prop := (∀ R, Q R → ∀ x ∈ R, rmV B x ≤ 2100000000000000) ∧ (∀ R, Q R → R.length ≤ 400 → Q (radR B b 0 (txP (bkM (B b)) 0).2.2.1 0 R)) ∧ (∀ t R, 0 < t → t < mg (bkM (B b)) 80 → Q R → R.length ≤ 400 → (fcR B (bkM (B b)) t (bkH (B b)) R (txP (bkM (B b)) t).1 0 0).1 = 0 → tkK B (bkM (B b)) t (txP (bkM (B b)) t).1 0 R ∧ Q (radR B b t (txP (bkM (B b)) t).2.2.1 0 (tkR B (bkM (B b)) t (txP (bkM (B b)) t).1 0 R)))
theorem rcF_Q {Gp : Pt} {ck : Bool} {B : Nat → Bk} {b : Nat} {Q : List Nat → Prop} (hQ : cnQ B b Q) : ∀ (u t : Nat) (R : List Nat) (fe : Nat) (R2 : List Nat), t + u ≤ mg (bkM (B b)) 80 → Q R → R.length ≤ 400 → rcF Gp ck B (bkM (B b)) b (bkH (B b)) u t R fe = (0, R2) → Q R2 ∧ R2.length ≤ 400
  | 0, t, R, fe, R2, _, h1, h2, h => by
    rw [rcF] at h
    split at h
    · cases h
    · cases h; exact ⟨h1, h2⟩
  | u + 1, t, R, fe, R2, htu, h1, h2, h => by
    rw [rcF] at h
    split at h
    · split at h
      · cases h
      · next hl => exact rcF_Q hQ u 1 _ _ R2 (by omega) (hQ.2.1 R h1 h2) (by omega) h
    · next t0 =>
      split at h
      · next h0 => exact absurd (congrArg Prod.fst h) h0
      · next h0 =>
        split at h
        · cases h
        · split at h
          · cases h
          · split at h
            · cases h
            · next hl => exact rcF_Q hQ u (t + 1) _ _ R2 (by omega) (hQ.2.2 t R (by omega) (by omega) h1 h2 (Decidable.not_not.mp h0)).2 (by omega) h
/-- a failing block's mark comes on all that stand on it -/
def sbL (B0 : Nat → Bk) (n x : Nat) : Nat → Nat → (Nat → Bk) → (Nat → Bk)
  | 0, _, B => B
  | u + 1, i, B => sbL B0 n x u (i + 1) (va_up B i (bD (B i) (bkD (B i) || decide (stL B0 x n i = x))))
/-- the reason, the coins, the blocks -/
def rchF (Gp : Pt) (n : Nat) : List Nat → (Nat → Bk) → List Nat → Nat × List Nat × (Nat → Bk)
  | [], B, R => (0, R, B)
  | b :: r, B, R => if (rcF Gp (bkC (B b)).isSome B (bkM (B b)) b (bkH (B b)) (mg (bkM (B b)) 80) 0 R 0).1 = 0 then rchF Gp n r (ckB B b) (rcF Gp (bkC (B b)).isSome B (bkM (B b)) b (bkH (B b)) (mg (bkM (B b)) 80) 0 R 0).2 else ((rcF Gp (bkC (B b)).isSome B (bkM (B b)) b (bkH (B b)) (mg (bkM (B b)) 80) 0 R 0).1, R, sbL B n b (n - b) b B)
def rchK (n : Nat) (B : Nat → Bk) (S S' : ks_S) (V V' : Nat → Value) (F F' : Nat) : Prop := sfK (360 :: (nmL n B ++ LCx)) S S' F F' ∧ ∀ k, k ∉ LCf → V' k = V k
theorem rchK.trans {n : Nat} {B : Nat → Bk} {S S1 S2 : ks_S} {V V1 V2 : Nat → Value} {F F1 F2 : Nat} (h : rchK n B S S1 V V1 F F1) (k : rchK n B S1 S2 V1 V2 F1 F2) : rchK n B S S2 V V2 F F2 := ⟨h.1.trans k.1, fun j a => (k.2 j a).trans (h.2 j a)⟩
theorem rchK.rf (n : Nat) (B : Nat → Bk) (S : ks_S) (V : Nat → Value) (F : Nat) : rchK n B S S V V F F := ⟨sfK.rf _ _ _, fun _ _ => rfl⟩
theorem ks_bo_or (a b : Bool) : ks_bo a ||| ks_bo b = ks_bo (a || b) := by cases a <;> cases b <;> decide
theorem fcR_le {B : Nat → Bk} {M : List Nat} {t h : Nat} {R : List Nat} : ∀ {u i s : Nat}, (fcR B M t h R u i s).1 ≤ 13
  | 0, i, s => Nat.zero_le _
  | u + 1, i, s => by
    unfold fcR
    split
    · show 11 ≤ 13; decide
    · split
      · show 12 ≤ 13; decide
      · split
        · show 13 ≤ 13; decide
        · exact fcR_le
theorem rcF_le {Gp : Pt} {ck : Bool} {B : Nat → Bk} {M : List Nat} {b h : Nat} : ∀ {u t : Nat} {R : List Nat} {fe : Nat}, (rcF Gp ck B M b h u t R fe).1 ≤ 16
  | 0, t, R, fe => by
    rw [rcF]
    split
    · exact (by decide : 15 ≤ 16)
    · exact Nat.zero_le 16
  | u + 1, t, R, fe => by
    rw [rcF]
    split
    · split
      · exact Nat.le_refl _
      · exact rcF_le
    · split
      · exact Nat.le_trans fcR_le (by decide)
      · split
        · exact (by decide : 13 ≤ 16)
        · split
          · exact (by decide : 14 ≤ 16)
          · split
            · exact Nat.le_refl _
            · exact rcF_le
set_option maxRecDepth 100000 in
set_option maxHeartbeats 800000 in
theorem l_rcBad {l : Launch} {G : ks_G} {d : Nat} {S : ks_S} {V : Nat → Value} {F n : Nat} {B : Nat → Bk} {Gp : Pt} {B0 : Nat → Bk} {x c9 kx : Nat} {f : Nat → Nat} {R : List Nat} (hx : x < n) (hW : chW n B0) (hD : rbD n B0) (hkx : kx < 61) (hfx : f kx = x) {P9 : Option Value → ks_S → Prop} (hk : ∀ (S2 : ks_S), ks_up S S2 (nmL n B0) → rcnS S2 V F n (sbL B0 n x (n - x) x B0) Gp R → P9 (some (.int (nI c9))) S2) (h360 : S.2.2 360 = some (kN 61 f)) (v47 : V 47 = .int (nI n)) (hn : n ≤ 61) (h565 : ∀ i, i < n → 565 ≤ bkN (B0 i)) : ∀ (u i : Nat) (S1 : ks_S) (B1 : Nat → Bk), i + u = n → ks_up S S1 (nmL n B0) → rcnS S1 V F n B1 Gp R → eqB B0 B1 → sbL B0 n x u i B1 = sbL B0 n x (n - x) x B0 → ks_X l G mX16_chain (d + 14) 72 [(0, .ref 290), (3, .int (nI kx)), (4, .int (nI c9)), (5, .int (nI i))] [] S1 P9 := by
  have n360 : 360 ∉ nmL n B0 := fun hm => by
    obtain ⟨i, h1, h2⟩ := List.mem_map.mp hm
    have := h565 i (List.mem_range.mp h1)
    omega
  intro u
  induction u with
  | zero =>
    intro i S1 B1 hi hu C1 hE hs
    have e360 := hu.at h360 n360
    obtain ⟨o1, -, rb1, -⟩ := id C1
    obtain ⟨⟨bf, h341, hbf⟩, hBB, hn61⟩ := id rb1
    refine ks_iload dX16_chain_72 rfl rfl ?_
    refine ks_aload_n dX16_chain_74 rfl rfl ?_
    refine ks_getf (T := TX16) (kf := 47) kx_2415 rfl in_X16 cl_X16 (by decide) o1 rfl dX16_chain_75 rfl ?_
    refine ks_tv v47 ?_
    refine ks_icmp_geN (tgt := 114) (by omega) (by omega) dX16_chain_78 (by decide) rfl (fun h1 => ?_) (fun h1 => absurd h1 (by omega))
    refine ks_iload dX16_chain_114 rfl rfl ?_
    refine ks_iret rfl dX16_chain_116 ?_
    have hs9 : B1 = sbL B0 n x (n - x) x B0 := hs
    rw [hs9] at C1
    exact hk S1 hu C1
  | succ u ih =>
    intro i S1 B1 hi hu C1 hE hs
    have e360 := hu.at h360 n360
    obtain ⟨o1, -, rb1, -⟩ := id C1
    obtain ⟨⟨bf, h341, hbf⟩, hBB, hn61⟩ := id rb1
    refine ks_iload dX16_chain_72 rfl rfl ?_
    refine ks_aload_n dX16_chain_74 rfl rfl ?_
    refine ks_getf (T := TX16) (kf := 47) kx_2415 rfl in_X16 cl_X16 (by decide) o1 rfl dX16_chain_75 rfl ?_
    refine ks_tv v47 ?_
    refine ks_icmp_geN (tgt := 114) (by omega) (by omega) dX16_chain_78 (by decide) rfl (fun h1 => absurd h1 (by omega)) (fun h1 => ?_)
    obtain ⟨oi, -, -, -, lo, -⟩ := hBB i (by omega)
    refine ks_aload_n dX16_chain_81 rfl rfl ?_
    refine ks_getf (T := TX16) (kf := 46) kx_2414 rfl in_X16 cl_X16 (by decide) o1 rfl dX16_chain_82 rfl ?_
    refine ks_iload dX16_chain_85 rfl rfl ?_
    refine ks_aaldN (i := i) (b := (bkN (B1 i))) (by decide) h341 rfl (by omega) (by decide) (hbf i (by omega)) dX16_chain_87 rfl ?_
    refine ks_dup dX16_chain_88 rfl rfl ?_
    refine ks_getN (T := TX12) (kf := 6) kx_2066 rfl in_X12 cl_X12 (by decide) oi rfl dX16_chain_89 rfl ?_
    refine ks_aload_n dX16_chain_92 rfl rfl ?_
    refine ks_aload_n dX16_chain_93 rfl rfl ?_
    refine ks_getf (T := TX16) (kf := 64) kx_2432 rfl in_X16 cl_X16 (by decide) o1 rfl dX16_chain_94 rfl ?_
    refine ks_iload_n dX16_chain_97 rfl rfl ?_
    refine ks_ialdN (i := kx) e360 rfl (by omega) (by decide) dX16_chain_98 rfl ?_
    rw [hfx]
    refine ks_iload dX16_chain_99 rfl rfl ?_
    refine ks_callV (n := 2) (M' := mX16_isIn) (c_md_isIn (d := d + 13) o1 rb1 hx (hE.W hW) (c := i) (by omega)) o1 cl_X16 rfl kx_2848 kx_2850 kxp_142 kx_30 kx_2851 (by decide +kernel) rfl (by decide) (Nat.le_of_ble_eq_true rfl) rfl dX16_chain_101 rfl (fun z2 S2 y2 => ?_)
    obtain ⟨rfl, hT2⟩ := y2
    obtain rfl := hT2.symm
    rw [stL_c hE]
    refine ks_ior dX16_chain_104 rfl ?_
    refine ks_ti (y := ks_bo (bkD (B1 i) || decide (stL B0 x n i = x))) (ks_bo_or _ _) ?_
    refine ks_putN (T := TX12) (kf := 6) kx_2066 rfl in_X12 tyX12_ok nmX12 cl_X12 (by decide) oi (Nat.le_of_ble_eq_true rfl) rfl rfl (ks_bo_z _) (by generalize (bkD (B1 i) || decide (stL B0 x n i = x)) = z9; cases z9 <;> rfl) dX16_chain_105 rfl ?_
    refine ks_incN (c := 1) (e := i + 1) dX16_chain_108 rfl (by decide) rfl (by decide) rfl ?_
    refine ks_sub [(5, _), (0, _), (3, _), (4, _)] rfl ?_
    refine ks_goto (tgt := 72) dX16_chain_111 (by decide) ?_
    have u2 : ks_up S1 (ks_set S1 (bkN (B1 i)) (rkO (bD (B1 i) (bkD (B1 i) || decide (stL B0 x n i = x))))) [bkN (B1 i)] := ks_up_set _ _ (List.mem_singleton.mpr rfl)
    have C2 := C1.st (b' := bD (B1 i) (bkD (B1 i) || decide (stL B0 x n i = x))) (hE.D hD) (by omega) ⟨rfl, rfl, rfl⟩ u2 (ks_set_same _ _ _)
    exact ks_sub [(0, _), (3, _), (4, _), (5, _)] rfl (ih (i + 1) _ _ (by omega) (hu.trans (u2.mono (fun a ha => by rw [List.mem_singleton] at ha; rw [ha, (hE i).1]; exact nmL_mem (by omega)))) C2 (hE.trans (eqB.bd B1 i _)) hs)
set_option maxRecDepth 100000 in
set_option maxHeartbeats 800000 in
theorem l_rcPath {l : Launch} {G : ks_G} {d : Nat} {S : ks_S} {V : Nat → Value} {F n : Nat} {B : Nat → Bk} {Gp : Pt} {last : Nat} {R : List Nat} (hI : rcnS S V F n B Gp R) (hW : chW n B) {P9 : Option Value → ks_S → Prop} (hk : ∀ (S2 : ks_S) (f : Nat → Nat), ks_up S S2 [360] → S2.2.2 360 = some (kN 61 f) → (∀ j, j < (upL B n (last + 1)).length → f j = (upL B n (last + 1)).getD j 0) → ks_X l G mX16_chain (d + 14) 31 [(0, .ref 290), (2, .int (nI (upL B n (last + 1)).length))] [] S2 P9) : ∀ (f9 m k : Nat) (S1 : ks_S) (f : Nat → Nat), k ≤ f9 → k ≤ n → (upL B n (last + 1)).drop m = upL B f9 k → m ≤ (upL B n (last + 1)).length → ks_up S S1 [360] → S1.2.2 360 = some (kN 61 f) → (∀ j, j < m → f j = (upL B n (last + 1)).getD j 0) → ks_X l G mX16_chain (d + 14) 4 [(0, .ref 290), (2, .int (nI m)), (3, .int (nI k - 1))] [] S1 P9 := by
  obtain ⟨o0, -, rb0, -⟩ := id hI
  obtain ⟨⟨bf, h341, hbf⟩, hBB, hn61⟩ := id rb0
  have lP := upL_len B n (last + 1)
  intro f9
  induction f9 with
  | zero =>
    intro m k S1 f hkf hkn hdr hml hu e1 hf
    have o1 := hu.at o0 (by decide)
    have e341 := hu.at h341 (by decide)
    refine ks_iload_n dX16_chain_4 rfl rfl ?_
    refine ks_if_ltD (tgt := 31) (by omega) dX16_chain_5 (by decide) rfl (fun h1 => ?_) (fun h1 => ?_)
    · have hm9 : m = (upL B n (last + 1)).length := by
        have := congrArg List.length hdr
        rw [List.length_drop] at this
        have e0 : upL B 0 k = [] := rfl
        rw [e0] at this
        have : (upL B n (last + 1)).length - m = 0 := this
        omega
      rw [hm9]
      exact ks_sub [(0, _), (2, _)] rfl (hk S1 f hu e1 (fun j hj => hf j (by omega)))
    · omega
  | succ f9 ih =>
    intro m k S1 f hkf hkn hdr hml hu e1 hf
    have o1 := hu.at o0 (by decide)
    have e341 := hu.at h341 (by decide)
    refine ks_iload_n dX16_chain_4 rfl rfl ?_
    refine ks_if_ltD (tgt := 31) (by omega) dX16_chain_5 (by decide) rfl (fun h1 => ?_) (fun h1 => ?_)
    · have hm9 : m = (upL B n (last + 1)).length := by
        have := congrArg List.length hdr
        rw [List.length_drop] at this
        have e0 : upL B (f9 + 1) k = [] := if_pos (by omega)
        rw [e0] at this
        have : (upL B n (last + 1)).length - m = 0 := this
        omega
      rw [hm9]
      exact ks_sub [(0, _), (2, _)] rfl (hk S1 f hu e1 (fun j hj => hf j (by omega)))
    · have hk0 : 0 < k := by omega
      have hm1 : m < (upL B n (last + 1)).length := by
        have := congrArg List.length hdr
        rw [List.length_drop, upL, if_neg (by omega), List.length_cons] at this
        omega
      rw [nI_D hk0]
      obtain ⟨ok, -, -, -, -⟩ := hBB (k - 1) (by omega)
      have ok1 := hu.at ok (by rw [List.mem_singleton]; have := (hBB (k - 1) (by omega)).2.2.2.2.1; omega)
      refine ks_aload_n dX16_chain_8 rfl rfl ?_
      refine ks_getf (T := TX16) (kf := 64) kx_2432 rfl in_X16 cl_X16 (by decide) o1 rfl dX16_chain_9 rfl ?_
      refine ks_iload_n dX16_chain_12 rfl rfl ?_
      refine ks_iload_n dX16_chain_13 rfl rfl ?_
      refine ks_iastNN (i := m) (v := k - 1) (by decide) e1 (by omega) (by decide) dX16_chain_14 rfl ?_
      refine ks_incN (c := 1) (e := m + 1) dX16_chain_15 rfl (by decide) rfl (by decide) rfl ?_
      refine ks_sub [(2, _), (0, _), (3, _)] rfl ?_
      refine ks_aload_n dX16_chain_18 rfl rfl ?_
      refine ks_getf (T := TX16) (kf := 46) kx_2414 rfl in_X16 cl_X16 (by decide) ((ks_set_ne _ _ (by decide)).trans o1) rfl dX16_chain_19 rfl ?_
      refine ks_iload_n dX16_chain_22 rfl rfl ?_
      refine ks_aaldN (i := k - 1) (b := (bkN (B (k - 1)))) (by decide) ((ks_set_ne _ _ (by decide)).trans e341) rfl (by omega) (by decide) (hbf (k - 1) (by omega)) dX16_chain_23 rfl ?_
      refine ks_getN (T := TX12) (kf := 5) kx_2065 rfl in_X12 cl_X12 (by decide) ((ks_set_ne _ _ (by have := (hBB (k - 1) (by omega)).2.2.2.2.1; omega)).trans ok1) rfl dX16_chain_24 rfl ?_
      refine ks_istore_n dX16_chain_27 (by decide) rfl ?_
      refine ks_sub [(3, _), (0, _), (2, _)] rfl ?_
      refine ks_goto (tgt := 4) dX16_chain_28 (by decide) ?_
      have hpb : bkP (B (k - 1)) ≤ k - 1 := by
        by_cases e : k - 1 = 0
        · rw [e, hW.1]; exact Nat.zero_le _
        · exact (hW.2 (k - 1) (by omega) (by omega)).2
      rw [upL, if_neg (by omega)] at hdr
      have hg : (upL B n (last + 1)).getD m 0 = k - 1 := by
        have e9 := congrArg (fun z => z.getD 0 0) hdr
        simp only [List.getD_cons_zero] at e9
        rw [← e9, List.getD_eq_getElem?_getD, List.getD_eq_getElem?_getD, List.getElem?_drop]
        rfl
      refine ks_sub [(0, _), (2, _), (3, _)] rfl (ih (m + 1) (bkP (B (k - 1))) _ (va_up f m (k - 1)) (by omega) (by omega) ?_ (by omega) (hu.trans (ks_up_set _ _ (List.mem_singleton.mpr rfl))) (ks_set_same _ _ _) (fun j hj => ?_))
      · rw [← List.drop_drop, hdr]; rfl
      · by_cases e : j = m
        · rw [e, va_up_self, hg]
        · rw [va_up_ne _ _ e]; exact hf j (by omega)
set_option maxRecDepth 100000 in
set_option maxHeartbeats 1600000 in
theorem l_rcRun {l : Launch} {G : ks_G} {d : Nat} {S : ks_S} {V : Nat → Value} {F n : Nat} {B : Nat → Bk} {Gp : Pt} {Q : List Nat → Prop} (hQ : ∀ B', eqB B B' → ∀ b, b < n → cnQ B' b Q) (hh9 : ∀ i, i < n → bkH (B i) < 700) (hva : ∀ b t, b < n → t < mg (bkM (B b)) 80 → vaM (bkM (B b)) t ≤ 2100000000000000) (hc0 : ∀ b, b < n → 0 < mg (bkM (B b)) 80) (hW : chW n B) (hD : rbD n B) {last : Nat} {f : Nat → Nat} (hl : last < n) (h565 : ∀ i, i < n → 565 ≤ bkN (B i)) (hn61 : n ≤ 61) (v47 : V 47 = .int (nI n)) (hf : ∀ j, j < (upL B n (last + 1)).length → f j = (upL B n (last + 1)).getD j 0) : ∀ (u : Nat) (S1 : ks_S) (V1 : Nat → Value) (F1 : Nat) (B1 : Nat → Bk) (R1 : List Nat), u ≤ (upL B n (last + 1)).length → rchK n B S S1 V V1 F F1 → S1.2.2 360 = some (kN 61 f) → rcnS S1 V1 F1 n B1 Gp R1 → eqB B B1 → Q R1 → R1.length ≤ 400 → rchF Gp n (upL B n (last + 1)).reverse B [] = rchF Gp n ((upL B n (last + 1)).take u).reverse B1 R1 → ks_X l G mX16_chain (d + 14) 40 [(0, .ref 290), (3, .int (nI u - 1))] [] S1 (fun z S' => z = some (.int (nI (rchF Gp n (upL B n (last + 1)).reverse B []).1)) ∧ ∃ V' F' R', rchK n B S S' V V' F F' ∧ rcnS S' V' F' n (rchF Gp n (upL B n (last + 1)).reverse B []).2.2 Gp R' ∧ ((rchF Gp n (upL B n (last + 1)).reverse B []).1 = 0 → R' = (rchF Gp n (upL B n (last + 1)).reverse B []).2.1)) := by
  have lP := upL_len B n (last + 1)
  intro u
  induction u with
  | zero =>
    intro S1 V1 F1 B1 R1 hul K1 e360 C1 hE hQR hR4 er
    refine ks_iload_n dX16_chain_40 rfl rfl ?_
    refine ks_if_ltD (tgt := 123) (by omega) dX16_chain_41 (by decide) rfl (fun h1 => ?_) (fun h1 => ?_)
    · refine ks_iconst (x := nI 0) dX16_chain_123 (by decide) rfl ?_
      refine ks_iret rfl dX16_chain_124 ?_
      have er2 : rchF Gp n (upL B n (last + 1)).reverse B [] = (0, R1, B1) := er
      rw [er2]
      exact ⟨rfl, V1, F1, R1, K1, C1, fun _ => rfl⟩
    · exact absurd rfl h1
  | succ u ih =>
    intro S1 V1 F1 B1 R1 hul K1 e360 C1 hE hQR hR4 er
    refine ks_iload_n dX16_chain_40 rfl rfl ?_
    refine ks_if_ltD (tgt := 123) (by omega) dX16_chain_41 (by decide) rfl (fun h1 => ?_) (fun h1 => ?_)
    · exact absurd h1 (Nat.succ_ne_zero _)
    · rw [nI_pred]
      have hu1 : u < (upL B n (last + 1)).length := by omega
      have hfu := hf u hu1
      have hbm := getD_mem hu1
      obtain ⟨b, eb⟩ : ∃ b, b = (upL B n (last + 1)).getD u 0 := ⟨_, rfl⟩
      rw [← eb] at hfu hbm
      have hb : b < n := upL_mem hW n (last + 1) (by omega) b hbm
      have etk : ((upL B n (last + 1)).take (u + 1)).reverse = b :: ((upL B n (last + 1)).take u).reverse := by
        rw [List.take_add_one, List.reverse_append, eb, List.getD_eq_getElem?_getD, List.getElem?_eq_getElem hu1]
        rfl
      rw [etk] at er
      obtain ⟨o1, -, rb1, -⟩ := id C1
      refine ks_aload_n dX16_chain_44 rfl rfl ?_
      refine ks_aload_n dX16_chain_45 rfl rfl ?_
      refine ks_getf (T := TX16) (kf := 64) kx_2432 rfl in_X16 cl_X16 (by decide) o1 rfl dX16_chain_46 rfl ?_
      refine ks_iload_n dX16_chain_49 rfl rfl ?_
      refine ks_ialdN (i := u) e360 rfl (by omega) (by decide) dX16_chain_50 rfl ?_
      rw [hfu]
      obtain ⟨q1, q2, q3⟩ := hQ B1 hE b hb
      have eMb := (hE b).2.1
      refine ks_callV (n := 1) (M' := mX16_connect) (c_md_connect (d := d) (hE.D hD) hb (fun i hi => by rw [(hE i).2.2.2.1]; exact hh9 i hi) (fun t ht => by rw [eMb] at ht ⊢; exact hva b t hb ht) (by rw [eMb]; exact hc0 b hb) q1 q2 q3 C1 hQR hR4) o1 cl_X16 rfl kx_2118 kx_2120 kxp_77 kx_30 kx_2121 (by decide +kernel) rfl (by decide) (Nat.le_of_ble_eq_true rfl) rfl dX16_chain_51 rfl (fun z2 S2 y2 => ?_)
      obtain ⟨rc, erc⟩ : ∃ r, r = rcF Gp (bkC (B1 b)).isSome B1 (bkM (B1 b)) b (bkH (B1 b)) (mg (bkM (B1 b)) 80) 0 R1 0 := ⟨_, rfl⟩
      rw [← erc] at y2
      obtain ⟨rfl, V2, F2, R2, ⟨sf2, hv2⟩, hc⟩ := y2
      rw [rchF, ← erc] at er
      have K2 : rchK n B S1 S2 V1 V2 F1 F2 := ⟨sf2.mono (fun a ha => by
        rcases List.mem_cons.mp ha with h | h
        · rw [h, (hE b).1]; exact List.mem_cons_of_mem _ (List.mem_append_left _ (nmL_mem hb))
        · exact List.mem_cons_of_mem _ (List.mem_append_right _ h)), hv2⟩
      have f360 := sf2.at e360 (fun hm => by
        rcases List.mem_cons.mp hm with h | h
        · have := h565 b hb; rw [(hE b).1] at h; omega
        · exact absurd h (by decide))
      rcases hc with ⟨h0, C2⟩ | ⟨h0, hR2, C2⟩
      · rw [if_neg h0] at er
        rw [er]
        obtain ⟨c9, ec9⟩ : ∃ c, c = rc.1 := ⟨_, rfl⟩
        rw [← ec9] at h0 ⊢
        obtain ⟨o2, -, rb2, -⟩ := id C2
        have c9b : c9 < 2 ^ 20 := by rw [ec9, erc]; exact Nat.lt_of_le_of_lt rcF_le (by decide)
        refine ks_istore dX16_chain_54 (by decide) rfl ?_
        refine ks_sub [(4, _), (0, _), (3, _)] rfl ?_
        refine ks_iload dX16_chain_56 rfl rfl ?_
        refine ks_if_neN (tgt := 64) (by omega) dX16_chain_58 (by decide) rfl (fun h3 => ?_) (fun h3 => ?_)
        · refine ks_aload_n dX16_chain_64 rfl rfl ?_
          refine ks_getf (T := TX16) (kf := 64) kx_2432 rfl in_X16 cl_X16 (by decide) o2 rfl dX16_chain_65 rfl ?_
          refine ks_iload_n dX16_chain_68 rfl rfl ?_
          refine ks_ialdN (i := u) f360 rfl (by omega) (by decide) dX16_chain_69 rfl ?_
          rw [hfu]
          refine ks_istore dX16_chain_70 (by decide) rfl ?_
          refine ks_sub [(5, _), (0, _), (3, _), (4, _)] rfl ?_
          refine ks_sub [(0, _), (3, _), (4, _), (5, _)] rfl ?_
          refine l_rcBad (B := B) (B0 := B1) (x := b) (f := f) hb (hE.W hW) (hE.D hD) (by omega) hfu (fun S3 u3 C3 => ?_) f360 ((hv2 47 (by decide)).trans ((K1.2 47 (by decide)).trans v47)) hn61 (fun i hi => by rw [(hE i).1]; exact h565 i hi) (n - b) b S2 B1 (by omega) (ks_up.rf _ _) C2 (eqB.rf _) rfl
          have K3 : rchK n B S2 S3 V2 V2 F2 F2 := ⟨(sfK.of u3).mono (fun a ha => by
            obtain ⟨i, h1, h2⟩ := List.mem_map.mp ha
            rw [← h2, (hE i).1]
            exact List.mem_cons_of_mem _ (List.mem_append_left _ (nmL_mem (List.mem_range.mp h1)))), fun _ _ => rfl⟩
          exact ⟨rfl, V2, F2, R2, (K1.trans K2).trans K3, C3, fun h => absurd h h0⟩
        · exact absurd h3 h0
      · rw [if_pos h0] at er
        have hq2 := rcF_Q (Gp := Gp) (ck := (bkC (B1 b)).isSome) ⟨q1, q2, q3⟩ (mg (bkM (B1 b)) 80) 0 R1 0 rc.2 (by omega) hQR hR4 (by rw [← erc, ← h0])
        rw [h0, hR2] at *
        obtain ⟨o2, -, -, -⟩ := id C2
        refine ks_istore dX16_chain_54 (by decide) rfl ?_
        refine ks_sub [(4, _), (0, _), (3, _)] rfl ?_
        refine ks_iload dX16_chain_56 rfl rfl ?_
        refine ks_if_neN (tgt := 64) (by decide) dX16_chain_58 (by decide) rfl (fun h3 => ?_) (fun h3 => ?_)
        · exact absurd h3 (by decide)
        · refine ks_goto (tgt := 117) dX16_chain_61 (by decide) ?_
          refine ks_incD dX16_chain_117 rfl (by decide) (by decide) rfl ?_
          refine ks_sub [(3, _), (0, _), (4, _)] rfl ?_
          refine ks_goto (tgt := 40) dX16_chain_120 (by decide) ?_
          exact ks_sub [(0, _), (3, _)] rfl (ih S2 V2 F2 (ckB B1 b) rc.2 (by omega) (K1.trans K2) f360 C2 (hE.trans (eqB.ck B1 b)) hq2.1 hq2.2 er)
set_option maxRecDepth 100000 in
set_option maxHeartbeats 800000 in
theorem c_md_chain {l : Launch} {G : ks_G} {d : Nat} {S : ks_S} {V : Nat → Value} {F n : Nat} {B : Nat → Bk} {Gp : Pt} {Q : List Nat → Prop} (hQ : ∀ B', eqB B B' → ∀ b, b < n → cnQ B' b Q) (hh9 : ∀ i, i < n → bkH (B i) < 700) (hva : ∀ b t, b < n → t < mg (bkM (B b)) 80 → vaM (bkM (B b)) t ≤ 2100000000000000) (hc0 : ∀ b, b < n → 0 < mg (bkM (B b)) 80) (hW : chW n B) (hD : rbD n B) {last : Nat} {f : Nat → Nat} {R : List Nat} (hl : last < n) (hI : rcnS S V F n B Gp R) (h360 : S.2.2 360 = some (kN 61 f)) (v47 : V 47 = .int (nI n)) (hQ0 : Q []) : ks_P l G yX16_chain mX16_chain (d + 14) [.ref 290, .int (nI last)] S (fun z S' => z = some (.int (nI (rchF Gp n (upL B n (last + 1)).reverse B []).1)) ∧ ∃ V' F' R', rchK n B S S' V V' F F' ∧ rcnS S' V' F' n (rchF Gp n (upL B n (last + 1)).reverse B []).2.2 Gp R' ∧ ((rchF Gp n (upL B n (last + 1)).reverse B []).1 = 0 → R' = (rchF Gp n (upL B n (last + 1)).reverse B []).2.1)) := by
  obtain ⟨o0, mb0, rb0, ⟨f3, e343, hf3⟩, v52, hRl, hm⟩ := id hI
  have h565 : ∀ i, i < n → 565 ≤ bkN (B i) := fun i hi => (rb0.2.1 i hi).2.2.2.2.1
  refine ks_of (by decide) rfl rfl (Nat.le_of_ble_eq_true rfl) ?_
  show ks_X l G mX16_chain (d + 14) 0 [(0, .ref 290), (1, .int (nI last))] [] S _
  refine ks_iconst (x := nI 0) dX16_chain_0 (by decide) rfl ?_
  refine ks_istore_n dX16_chain_1 (by decide) rfl ?_
  refine ks_sub [(2, _), (0, _), (1, _)] rfl ?_
  refine ks_iload_n dX16_chain_2 rfl rfl ?_
  refine ks_istore_n dX16_chain_3 (by decide) rfl ?_
  refine ks_sub [(3, _), (0, _), (1, _), (2, _)] rfl ?_
  rw [show (Value.int (nI last)) = .int (nI (last + 1) - 1) by rw [nI_pred]]
  refine ks_sub [(0, _), (2, _), (3, _)] rfl ?_
  refine l_rcPath hI hW (fun S2 f2 u2 e2 hf2 => ?_) n 0 (last + 1) S f (by omega) (by omega) rfl (Nat.zero_le _) (ks_up.rf _ _) h360 (fun j hj => absurd hj (Nat.not_lt_zero _))
  have o2 := u2.at o0 (by decide)
  refine ks_aload_n dX16_chain_31 rfl rfl ?_
  refine ks_iconst (x := nI 0) dX16_chain_32 (by decide) rfl ?_
  refine ks_putf (T := TX16) (kf := 52) kx_2420 rfl in_X16 tyX16_ok nmX16 cl_X16 (by decide) o2 (Nat.le_of_ble_eq_true rfl) rfl rfl rfl rfl dX16_chain_33 rfl ?_
  refine md_put mdp_52 ?_
  refine ks_iload_n dX16_chain_36 rfl rfl ?_
  refine ks_iconst (x := nI 1) dX16_chain_37 (by decide) rfl ?_
  refine ks_subD dX16_chain_38 rfl ?_
  refine ks_istore_n dX16_chain_39 (by decide) rfl ?_
  refine ks_sub [(3, _), (0, _), (2, _)] rfl ?_
  have m2 : mqB S2 V F Gp := mb0.fr u2 (by decide) (fun x hx => by
    rw [List.mem_singleton] at hx
    subst hx
    exact ⟨⟨_, h360, fun g h => by cases h⟩, ⟨_, e2, fun g h => by cases h⟩⟩)
  have C2 : rcnS S2 V F n B Gp R := ⟨o2, m2, rb0.up u2 (by decide), ⟨f3, u2.at e343 (by decide), hf3⟩, v52, hRl, hm⟩
  have u3 : ks_up S2 (ks_set S2 290 (rfE (va_up V 52 (.int (nI 0))))) [290, 343] := ks_up_set _ _ (by decide)
  have C3 := C2.wr (R2 := []) (g := f3) u3 (ks_set_same _ _ _) (fun j hj => va_up_ne _ _ hj) ((ks_set_ne _ _ (by decide)).trans (u2.at e343 (by decide))) (fun j hj => absurd hj (Nat.not_lt_zero _)) (va_up_self _ _ _) (Nat.zero_le _) (fun x hx => absurd hx List.not_mem_nil)
  have K3 : rchK n B S _ V _ F F := ⟨(sfK.of (u2.mono (L' := 360 :: (nmL n B ++ LCx)) (fun a ha => by rw [List.mem_singleton] at ha; rw [ha]; exact List.mem_cons_self))).trans ((sfK.of u3).mono (fun a ha => List.mem_cons_of_mem _ (List.mem_append_right _ ((show ∀ a ∈ ([290, 343] : List Nat), a ∈ LCx by decide) a ha)))), fun k hk => (show va_up V 52 (.int (nI 0)) k = V k from va_up_ne _ _ (fun q => hk (by rw [q]; decide)))⟩
  refine ks_sub [(0, _), (3, _)] rfl ?_
  exact l_rcRun (S := S) hQ hh9 hva hc0 hW hD hl h565 rb0.2.2 v47 hf2 (upL B n (last + 1)).length _ _ F B [] (Nat.le_refl _) K3 ((ks_set_ne _ _ (by decide)).trans e2) C3 (eqB.rf B) hQ0 (Nat.zero_le _) (by rw [List.take_length])
