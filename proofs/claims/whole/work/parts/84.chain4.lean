/-! CHAIN: times, due bits -/
theorem bkK.up {S S1 : ks_S} {b : Bk} {L : List Nat} (h : bkK S b) (hu : ks_up S S1 L) (hL : ∀ x ∈ L, x < 56) : bkK S1 b := by
  obtain ⟨g1, f2, g3, g4, h1, h2, h3, h4, h5, h6, h7, h8⟩ := h
  have b56 := h1.2.2.2.2.2.2.2.2.2
  exact ⟨g1, f2, g3, g4, h1.up hu (fun x hx => by have := hL x hx; omega), h2, h3, h4, h5, h6, h7, fun c hc => ⟨hu.at (h8 c hc).1 (fun hm => by have := hL _ hm; have := (h8 c hc).2.2.1; omega), (h8 c hc).2⟩⟩
theorem chX.up {S S1 : ks_S} {n best : Nat} {cc : Int32} {tk : Int64} {B : Nat → Bk} {L : List Nat} (h : chX S n best cc tk B) (hu : ks_up S S1 L) (hL : (∀ x ∈ L, x < 56) ∧ 41 ∉ L ∧ 42 ∉ L) : chX S1 n best cc tk B := by
  obtain ⟨h1, ⟨bf, h2, h3⟩, h4, h5⟩ := h
  exact ⟨hu.at h1 hL.2.1, ⟨bf, hu.at h2 hL.2.2, h3⟩, fun i hi => (h4 i hi).up hu hL.1, h5⟩
def tmB (M : List Nat) : Nat := ks_num (mg M) 68 4
def btB (M : List Nat) : Nat := ks_num (mg M) 72 4
theorem bk_num {M : List Nat} {g1 : Nat → Nat} {i n : Nat} (h : ∀ j, j < M.length → g1 j = mg M j) (hi : i + n ≤ M.length) : ks_num g1 i n = ks_num (mg M) i n := ks_num_congr n i i (fun j hj => h _ (by omega))
/-- the place of a time among those in order -/
def insP (f : Nat → Nat) (v : Nat) : Nat → Nat
  | 0 => 0
  | k + 1 => if v < f k then insP f v k else k + 1
def insF (f : Nat → Nat) (n v : Nat) : Nat → Nat := fun j => if j < insP f v n then f j else if j = insP f v n then v else if j ≤ n then f (j - 1) else f j
theorem insP_le (f : Nat → Nat) (v : Nat) : ∀ n, insP f v n ≤ n
  | 0 => Nat.le_refl 0
  | k + 1 => by
    unfold insP
    split
    · have := insP_le f v k; omega
    · exact Nat.le_refl _
theorem insP_c {f g : Nat → Nat} (v : Nat) : ∀ {n : Nat}, (∀ j, j < n → f j = g j) → insP f v n = insP g v n
  | 0, _ => rfl
  | k + 1, h => by
    unfold insP
    rw [h k (by omega), insP_c v (n := k) (fun j hj => h j (by omega))]
theorem insF_c {f g : Nat → Nat} {n : Nat} (v : Nat) (h : ∀ j, j < n → f j = g j) : ∀ j, j < n + 1 → insF f n v j = insF g n v j := fun j hj => by
  unfold insF
  rw [insP_c v h]
  have := insP_le g v n
  split
  · exact h j (by omega)
  · split
    · rfl
    · rw [if_pos (by omega), if_pos (by omega)]; exact h _ (by omega)
theorem insF_lt {f : Nat → Nat} {n v b : Nat} (h : ∀ j, j < n → f j < b) (hv : v < b) : ∀ j, j < n + 1 → insF f n v j < b := fun j hj => by
  unfold insF
  have := insP_le f v n
  split
  · exact h j (by omega)
  · split
    · exact hv
    · rw [if_pos (by omega)]; exact h _ (by omega)
/-- the times of a block and those before it, in order -/
def mdL (B : Nat → Bk) : Nat → Nat → Nat → (Nat → Nat) → Nat × (Nat → Nat)
  | 0, _, c, f => (c, f)
  | u + 1, k, c, f => if k = 0 then (c, f) else mdL B u (bkP (B (k - 1))) (c + 1) (insF f c (tmB (bkM (B (k - 1)))))
theorem mdL_c {B : Nat → Bk} : ∀ {u k c : Nat} {f g : Nat → Nat}, (∀ j, j < c → f j = g j) → (mdL B u k c f).1 = (mdL B u k c g).1 ∧ ∀ j, j < (mdL B u k c f).1 → (mdL B u k c f).2 j = (mdL B u k c g).2 j
  | 0, k, c, f, g, h => ⟨rfl, h⟩
  | u + 1, k, c, f, g, h => by
    unfold mdL
    split
    · exact ⟨rfl, h⟩
    · exact mdL_c (insF_c _ h)
theorem mdL_pos {B : Nat → Bk} : ∀ {u k c : Nat} {f : Nat → Nat}, c ≤ (mdL B u k c f).1 ∧ (mdL B u k c f).1 ≤ c + u
  | 0, k, c, f => ⟨Nat.le_refl _, Nat.le_refl _⟩
  | u + 1, k, c, f => by
    unfold mdL
    split
    · exact ⟨Nat.le_refl _, by show c ≤ _; omega⟩
    · have := @mdL_pos B u (bkP (B (k - 1))) (c + 1) (insF f c (tmB (bkM (B (k - 1))))); omega
/-- the MIDDLE -/
def mdF (B : Nat → Bk) (x : Nat) : Nat := (mdL B 11 (x + 1) 0 (fun _ => 0)).2 ((mdL B 11 (x + 1) 0 (fun _ => 0)).1 / 2)
def upN (B : Nat → Bk) : Nat → Nat → Nat
  | 0, b => b
  | c + 1, b => if bkP (B b) = 0 then b else upN B c (bkP (B b) - 1)
/-- DUE BITS on a block -/
def dueB (B : Nat → Bk) (x : Nat) : Nat := if (bkH (B x) + 1) % 8 = 0 then tg_bits (tg_str (tg_num (btB (bkM (B x)))) (lN (tmB (bkM (B x))) - lN (tmB (bkM (B (upN B 7 x)))))) else btB (bkM (B x))
theorem tg_num_lt (b : Nat) : tg_num b < 2 ^ 256 := by
  unfold tg_num
  split
  · decide
  · next h =>
    have h1 : b / 2 ^ 24 ≤ 32 := by omega
    have h2 : b % 256 ^ 3 < 256 ^ 3 := Nat.mod_lt _ (by decide)
    have h3 : 256 ^ (b / 2 ^ 24) ≤ 256 ^ 32 := Nat.pow_le_pow_right (by decide) h1
    rw [Nat.div_lt_iff_lt_mul (by decide)]
    have h4 := Nat.mul_lt_mul_of_lt_of_le h2 h3 (by decide)
    rw [show (2 : Nat) ^ 256 * 256 ^ 3 = 256 ^ 3 * 256 ^ 32 by decide]
    exact h4
set_option maxRecDepth 100000 in
set_option maxHeartbeats 800000 in
theorem l_mdIn {l : Launch} {G : ks_G} {d : Nat} {S : ks_S} {n best : Nat} {cc : Int32} {tk : Int64} {B : Nat → Bk} (hX : chX S n best cc tk B) {x c k v : Nat} {f : Nat → Nat} {P : Option Value → ks_S → Prop} (hc : c < 11) (hv : v < 2 ^ 32) (hf : ∀ j, j < c → f j < 2 ^ 32) (hk : ∀ (S2 : ks_S) (p : Nat), ks_up S S2 [48] → S2.2.2 48 = some (kL 11 (insF f c v)) → ks_X l G mX2_middle (d + 1) 79 [(0, .ref 41), (1, .int (nI x)), (2, .int (nI c)), (3, .int (nI k - 1)), (4, .long (lN v)), (6, .int (nI p))] [] S2 P) : ∀ (a : Nat) (S1 : ks_S) (g : Nat → Nat), a ≤ c → ks_up S S1 [48] → S1.2.2 48 = some (kL 11 g) → (∀ j, j < a → g j = f j) → (∀ j, a < j → j ≤ c → g j = f (j - 1)) → (∀ j, c < j → g j = f j) → insP f v c = insP f v a → ks_X l G mX2_middle (d + 1) 28 [(0, .ref 41), (1, .int (nI x)), (2, .int (nI c)), (3, .int (nI k - 1)), (4, .long (lN v)), (6, .int (nI a))] [] S1 P := by
  have store : ∀ (S1 : ks_S) (g : Nat → Nat) (a : Nat), a ≤ c → ks_up S S1 [48] → S1.2.2 48 = some (kL 11 g) → (∀ j, j < a → g j = f j) → (∀ j, a < j → j ≤ c → g j = f (j - 1)) → (∀ j, c < j → g j = f j) → insP f v c = a → ks_X l G mX2_middle (d + 1) 70 [(0, .ref 41), (1, .int (nI x)), (2, .int (nI c)), (3, .int (nI k - 1)), (4, .long (lN v)), (6, .int (nI a))] [] S1 P := by
    intro S1 g a ha hu h48 q1 q2 q3 hp
    have hO := hu.at hX.1 (by decide)
    refine ks_aload_n dX2_middle_70 rfl rfl ?_
    refine ks_getf (T := TX2) (kf := 8) kx_742 rfl in_X2 cl_X2 (by decide) hO rfl dX2_middle_71 rfl ?_
    refine ks_iload dX2_middle_74 rfl rfl ?_
    refine ks_lload dX2_middle_76 rfl rfl ?_
    refine ks_lastNN (i := a) (v := v) h48 (by omega) (by decide) dX2_middle_78 rfl ?_
    have e9 : va_up g a v = insF f c v := by
      funext j
      unfold insF
      rw [hp]
      by_cases c1 : j = a
      · subst c1; rw [va_up_self, if_neg (by omega), if_pos rfl]
      · rw [va_up_ne _ _ c1]
        by_cases c2 : j < a
        · rw [if_pos c2]; exact q1 j c2
        · rw [if_neg c2, if_neg c1]
          by_cases c3 : j ≤ c
          · rw [if_pos c3]; exact q2 j (by omega) c3
          · rw [if_neg c3]; exact q3 j (by omega)
    rw [e9]
    exact hk _ a (hu.trans (ks_up_set _ _ (by decide))) (ks_set_same _ _ _)
  intro a
  induction a with
  | zero =>
    intro S1 g ha hu h48 q1 q2 q3 hp
    have hO := hu.at hX.1 (by decide)
    refine ks_iload dX2_middle_28 rfl rfl ?_
    refine ks_if_leN (tgt := 70) (by decide) dX2_middle_30 (by decide) rfl (fun h1 => ?_) (fun h1 => ?_)
    · exact store S1 g 0 (by omega) hu h48 q1 q2 q3 hp
    · omega
  | succ a ih =>
    intro S1 g ha hu h48 q1 q2 q3 hp
    have hO := hu.at hX.1 (by decide)
    refine ks_iload dX2_middle_28 rfl rfl ?_
    refine ks_if_leN (tgt := 70) (by omega) dX2_middle_30 (by decide) rfl (fun h1 => ?_) (fun h1 => ?_)
    · omega
    · refine ks_aload_n dX2_middle_33 rfl rfl ?_
      refine ks_getf (T := TX2) (kf := 8) kx_742 rfl in_X2 cl_X2 (by decide) hO rfl dX2_middle_34 rfl ?_
      refine ks_iload dX2_middle_37 rfl rfl ?_
      refine ks_iconst (x := nI 1) dX2_middle_39 (by decide) rfl ?_
      refine ks_subN (by omega) dX2_middle_40 rfl ?_
      rw [Nat.add_sub_cancel]
      refine ks_laldN (i := a) h48 rfl (by omega) (by decide) dX2_middle_41 rfl ?_
      rw [q1 a (by omega)]
      have hfa := hf a (by omega)
      refine ks_lload dX2_middle_42 rfl rfl ?_
      refine ks_lif_leN (tgt := 70) (by omega) (by omega) dX2_middle_44 rfl dX2_middle_45 (by decide) rfl (fun h2 => ?_) (fun h2 => ?_)
      · exact store S1 g (a + 1) ha hu h48 q1 q2 q3 (by rw [hp, insP, if_neg (by omega)])
      · rw [insP, if_pos (by omega)] at hp
        refine ks_aload_n dX2_middle_48 rfl rfl ?_
        refine ks_getf (T := TX2) (kf := 8) kx_742 rfl in_X2 cl_X2 (by decide) hO rfl dX2_middle_49 rfl ?_
        refine ks_iload dX2_middle_52 rfl rfl ?_
        refine ks_aload_n dX2_middle_54 rfl rfl ?_
        refine ks_getf (T := TX2) (kf := 8) kx_742 rfl in_X2 cl_X2 (by decide) hO rfl dX2_middle_55 rfl ?_
        refine ks_iload dX2_middle_58 rfl rfl ?_
        refine ks_iconst (x := nI 1) dX2_middle_60 (by decide) rfl ?_
        refine ks_subN (by omega) dX2_middle_61 rfl ?_
        rw [Nat.add_sub_cancel]
        refine ks_laldN (i := a) h48 rfl (by omega) (by decide) dX2_middle_62 rfl ?_
        rw [q1 a (by omega)]
        refine ks_lastNN (i := a + 1) (v := f a) h48 (by omega) (by decide) dX2_middle_63 rfl ?_
        refine ks_decN (e := a) dX2_middle_64 rfl (by decide) (by omega) (by decide) rfl ?_
        refine ks_sub [(6, _), (0, _), (1, _), (2, _), (3, _), (4, _)] rfl ?_
        refine ks_goto (tgt := 28) dX2_middle_67 (by decide) ?_
        refine ks_sub [(0, _), (1, _), (2, _), (3, _), (4, _), (6, _)] rfl (ih _ _ (by omega) (hu.trans (ks_up_set _ _ (by decide))) (ks_set_same _ _ _) (fun j hj => ?_) (fun j h3 h4 => ?_) (fun j hj => ?_) hp)
        · rw [va_up_ne _ _ (by omega)]; exact q1 j (by omega)
        · by_cases c1 : j = a + 1
          · subst c1; rw [va_up_self, Nat.add_sub_cancel]
          · rw [va_up_ne _ _ c1]; exact q2 j (by omega) h4
        · rw [va_up_ne _ _ (by omega)]; exact q3 j hj
set_option maxRecDepth 100000 in
set_option maxHeartbeats 800000 in
theorem c_ch_middle {l : Launch} {G : ks_G} {d : Nat} {S : ks_S} {n best : Nat} {cc : Int32} {tk : Int64} {B : Nat → Bk} (hX : chX S n best cc tk B) {x : Nat} {f0 : Nat → Nat} (hW : chW n B) (hx : x < n) (h48 : S.2.2 48 = some (kL 11 f0)) : ks_P l G yX2_middle mX2_middle (d + 2) [.ref 41, .int (nI x)] S (fun z S' => z = some (.long (lN (mdF B x))) ∧ ks_up S S' [48] ∧ ∃ f, S'.2.2 48 = some (kL 11 f)) := by
  obtain ⟨r, hr⟩ : ∃ r, mdL B 11 (x + 1) 0 f0 = r := ⟨_, rfl⟩
  have e0 := @mdL_c B 11 (x + 1) 0 f0 (fun _ => 0) (fun j hj => absurd hj (Nat.not_lt_zero j))
  have e1 : (mdL B 11 (x + 1) 0 f0).1 ≤ 0 + 11 := mdL_pos.2
  have e2 : 1 ≤ (mdL B 11 (x + 1) 0 f0).1 := by
    rw [mdL, if_neg (by omega)]
    exact mdL_pos.1
  have em : mdF B x = r.2 (r.1 / 2) := by
    unfold mdF
    rw [← e0.1, ← e0.2 _ (by omega), hr]
  rw [em]
  rw [hr] at e1 e2
  have loop : ∀ (u c k : Nat) (S1 : ks_S) (f : Nat → Nat), c + u = 11 → k ≤ n → ks_up S S1 [48] → S1.2.2 48 = some (kL 11 f) → (∀ j, j < c → f j < 2 ^ 32) → mdL B u k c f = r → ks_X l G mX2_middle (d + 2) 4 [(0, .ref 41), (1, .int (nI x)), (2, .int (nI c)), (3, .int (nI k - 1))] [] S1 (fun z S' => z = some (.long (lN (r.2 (r.1 / 2)))) ∧ ks_up S S' [48] ∧ ∃ f, S'.2.2 48 = some (kL 11 f)) := by
    intro u
    induction u with
    | zero =>
      intro c k S1 f hcu hk hu h48 hf hm
      have X1 := hX.up hu (by decide)
      obtain ⟨hO, ⟨bf, h42, hbf⟩, hB, hn60⟩ := id X1
      refine ks_iload_n dX2_middle_4 rfl rfl ?_
      refine ks_if_ltD (tgt := 95) (by omega) dX2_middle_5 (by decide) rfl (fun h1 => ?_) (fun h1 => ?_)
      · refine ks_aload_n dX2_middle_95 rfl rfl ?_
        refine ks_getf (T := TX2) (kf := 8) kx_742 rfl in_X2 cl_X2 (by decide) hO rfl dX2_middle_96 rfl ?_
        refine ks_iload_n dX2_middle_99 rfl rfl ?_
        refine ks_iconst (x := nI 2) dX2_middle_100 (by decide) rfl ?_
        refine ks_divN (by omega) (by decide) (by decide) dX2_middle_101 rfl ?_
        refine ks_laldN (i := c / 2) h48 rfl (by omega) (by decide) dX2_middle_102 rfl ?_
        refine ks_lret rfl dX2_middle_103 ?_
        have er : r = (c, f) := by rw [← hm]; rfl
        rw [er]
        exact ⟨rfl, hu, f, h48⟩
      · refine ks_iload_n dX2_middle_8 rfl rfl ?_
        refine ks_bipush (x := nI 11) dX2_middle_9 (by decide) rfl ?_
        refine ks_icmp_geN (tgt := 95) (by omega) (by decide) dX2_middle_11 (by decide) rfl (fun h2 => ?_) (fun h2 => ?_)
        · refine ks_aload_n dX2_middle_95 rfl rfl ?_
          refine ks_getf (T := TX2) (kf := 8) kx_742 rfl in_X2 cl_X2 (by decide) hO rfl dX2_middle_96 rfl ?_
          refine ks_iload_n dX2_middle_99 rfl rfl ?_
          refine ks_iconst (x := nI 2) dX2_middle_100 (by decide) rfl ?_
          refine ks_divN (by omega) (by decide) (by decide) dX2_middle_101 rfl ?_
          refine ks_laldN (i := c / 2) h48 rfl (by omega) (by decide) dX2_middle_102 rfl ?_
          refine ks_lret rfl dX2_middle_103 ?_
          have er : r = (c, f) := by rw [← hm]; rfl
          rw [er]
          exact ⟨rfl, hu, f, h48⟩
        · omega
    | succ u ih =>
      intro c k S1 f hcu hk hu h48 hf hm
      have X1 := hX.up hu (by decide)
      obtain ⟨hO, ⟨bf, h42, hbf⟩, hB, hn60⟩ := id X1
      refine ks_iload_n dX2_middle_4 rfl rfl ?_
      refine ks_if_ltD (tgt := 95) (by omega) dX2_middle_5 (by decide) rfl (fun h1 => ?_) (fun h1 => ?_)
      · refine ks_aload_n dX2_middle_95 rfl rfl ?_
        refine ks_getf (T := TX2) (kf := 8) kx_742 rfl in_X2 cl_X2 (by decide) hO rfl dX2_middle_96 rfl ?_
        refine ks_iload_n dX2_middle_99 rfl rfl ?_
        refine ks_iconst (x := nI 2) dX2_middle_100 (by decide) rfl ?_
        refine ks_divN (by omega) (by decide) (by decide) dX2_middle_101 rfl ?_
        refine ks_laldN (i := c / 2) h48 rfl (by omega) (by decide) dX2_middle_102 rfl ?_
        refine ks_lret rfl dX2_middle_103 ?_
        have er : r = (c, f) := by rw [← hm]; rw [mdL, if_pos h1]
        rw [er]
        exact ⟨rfl, hu, f, h48⟩
      · refine ks_iload_n dX2_middle_8 rfl rfl ?_
        refine ks_bipush (x := nI 11) dX2_middle_9 (by decide) rfl ?_
        refine ks_icmp_geN (tgt := 95) (by omega) (by decide) dX2_middle_11 (by decide) rfl (fun h2 => ?_) (fun h2 => ?_)
        · omega
        · rw [mdL, if_neg h1] at hm
          obtain ⟨q, rfl⟩ : ∃ q, k = q + 1 := ⟨k - 1, by omega⟩
          rw [Nat.add_sub_cancel] at hm
          obtain ⟨g1x, f2x, g3x, g4x, ox, lex, egx, blx, stx, idx, hsx, cox⟩ := hB q (by omega)
          have b9 := blk_b blx
          have et := bk_num (i := 68) (n := 4) egx (by omega)
          have tv : tmB (bkM (B q)) < 2 ^ 32 := by unfold tmB; rw [← et]; exact ks_num_lt ox.2.2.2.2.2.1 4 68
          rw [nI_pred]
          refine ks_aload_n dX2_middle_14 rfl rfl ?_
          refine ks_getf (T := TX2) (kf := 0) kx_729 rfl in_X2 cl_X2 (by decide) hO rfl dX2_middle_15 rfl ?_
          refine ks_iload_n dX2_middle_18 rfl rfl ?_
          refine ks_aaldN (i := q) (b := (bkN (B q))) (by decide) h42 rfl (by omega) (by decide) (hbf q (by omega)) dX2_middle_19 rfl ?_
          refine ks_callV (n := 0) (M' := mX0_time) (c_bk_time (d := d) ox) ox.1 cl_X0 rfl kx_1396 kx_1397 kx_1398 kx_29 kx_1399 (by decide +kernel) rfl (by decide) (Nat.le_of_ble_eq_true rfl) rfl dX2_middle_20 rfl (fun z1 T1 y1 => ?_)
          obtain ⟨rfl, hT⟩ := y1
          obtain rfl := hT.symm
          rw [et, show ks_num (mg (bkM (B q))) 68 4 = tmB (bkM (B q)) from rfl]
          refine ks_lstore dX2_middle_23 (by decide) rfl ?_
          refine ks_sub [(4, _), (0, _), (1, _), (2, _), (3, _)] rfl ?_
          refine ks_iload_n dX2_middle_25 rfl rfl ?_
          refine ks_istore dX2_middle_26 (by decide) rfl ?_
          refine ks_sub [(6, _), (0, _), (1, _), (2, _), (3, _), (4, _)] rfl ?_
          refine ks_sub [(0, _), (1, _), (2, _), (3, .int (nI (q + 1) - 1)), (4, _), (6, _)] (by rw [nI_pred]; rfl) (l_mdIn (d := d + 1) X1 (by omega) tv hf (fun S2 p u2 e2 => ?_) c S1 f (Nat.le_refl _) (ks_up.rf _ _) h48 (fun j _ => rfl) (fun j h3 h4 => by omega) (fun j _ => rfl) rfl)
          have X2 := X1.up u2 (by decide)
          obtain ⟨hO, ⟨bf, h42, hbf⟩, hB, hn60⟩ := id X2
          rw [nI_pred]
          obtain ⟨g1y, f2y, g3y, g4y, oy, ley, egy, bly, sty, idy, hsy, coy⟩ := hB q (by omega)
          refine ks_incN (c := 1) (e := c + 1) dX2_middle_79 rfl (by decide) rfl (by decide) rfl ?_
          refine ks_sub [(2, _), (0, _), (1, _), (3, _), (4, _), (6, _)] rfl ?_
          refine ks_aload_n dX2_middle_82 rfl rfl ?_
          refine ks_getf (T := TX2) (kf := 0) kx_729 rfl in_X2 cl_X2 (by decide) hO rfl dX2_middle_83 rfl ?_
          refine ks_iload_n dX2_middle_86 rfl rfl ?_
          refine ks_aaldN (i := q) (b := (bkN (B q))) (by decide) h42 rfl (by omega) (by decide) (hbf q (by omega)) dX2_middle_87 rfl ?_
          refine ks_getf (T := TX0) (kf := 6) kx_952 rfl in_X0 cl_X0 (by decide) oy.1 rfl dX2_middle_88 rfl ?_
          refine ks_istore_n dX2_middle_91 (by decide) rfl ?_
          refine ks_sub [(3, _), (0, _), (1, _), (2, _), (4, _), (6, _)] rfl ?_
          refine ks_goto (tgt := 4) dX2_middle_92 (by decide) ?_
          exact ks_sub [(0, _), (1, _), (2, _), (3, _)] rfl (ih (c + 1) (bkP (B q)) S2 _ (by omega) (by by_cases q0 : q = 0; (subst q0; rw [hW.1]; omega); (have := hW.2 q (by omega) (by omega); omega)) (hu.trans u2) e2 (insF_lt hf tv) hm)
  refine ks_of (by decide) rfl rfl (Nat.le_of_ble_eq_true rfl) ?_
  show ks_X l G mX2_middle (d + 2) 0 [(0, .ref 41), (1, .int (nI x))] [] S _
  refine ks_iconst (x := nI 0) dX2_middle_0 (by decide) rfl ?_
  refine ks_istore_n dX2_middle_1 (by decide) rfl ?_
  refine ks_sub [(2, _), (0, _), (1, _)] rfl ?_
  refine ks_iload_n dX2_middle_2 rfl rfl ?_
  refine ks_istore_n dX2_middle_3 (by decide) rfl ?_
  refine ks_sub [(3, _), (0, _), (1, _), (2, _)] rfl ?_
  exact ks_sub [(0, _), (1, _), (2, _), (3, .int (nI (x + 1) - 1))] (by rw [nI_pred]; rfl) (loop 11 0 (x + 1) S f0 (by decide) (by omega) (ks_up.rf _ _) h48 (fun j hj => absurd hj (Nat.not_lt_zero j)) hr)
