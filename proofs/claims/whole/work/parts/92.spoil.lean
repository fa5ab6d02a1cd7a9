/-! CHAIN: spoil, keep -/
/-- blocks and rows of coins lie apart -/
def chS (n : Nat) (B : Nat → Bk) : Prop := (∀ i j, i < n → j < n → i ≠ j → bkN (B i) + 5 ≤ bkN (B j) ∨ bkN (B j) + 5 ≤ bkN (B i)) ∧ ∀ i j c, i < n → j < n → bkC (B i) = some c → c.1 < bkN (B j) ∨ bkN (B j) + 5 ≤ c.1
theorem bkK.set2 {S : ks_S} {b : Bk} {a : Nat} {e : ks_E} (h : bkK S b) (ha : a < bkN b ∨ bkN b + 4 < a) (hc : ∀ c, bkC b = some c → c.1 ≠ a) : bkK (ks_set S a e) b := by
  obtain ⟨g1, f2, g3, g4, h1, h2, h3, h4, h5, h6, h7, h8⟩ := h
  exact ⟨g1, f2, g3, g4, h1.up (ks_up_set S e (List.mem_singleton.mpr rfl)) (fun x hx => by rw [List.mem_singleton] at hx; omega), h2, h3, h4, h5, h6, h7, fun c q => ⟨(ks_set_ne S e (hc c q)).trans (h8 c q).1, (h8 c q).2⟩⟩
def bD (b : Bk) (v : Bool) : Bk := (b.1, b.2.1, b.2.2.1, b.2.2.2.1, b.2.2.2.2.1, v, b.2.2.2.2.2.2)
abbrev bkO (b : Bk) : ks_E := .inr (3, [.ref (bkN b + 1), .ref (bkN b + 2), .ref (bkN b + 3), .ref (bkN b + 4), .int (nI (bkM b).length), .int (nI (mg (bkM b) 80)), .int (nI (bkP b) - 1), .int (nI (bkH b)), .long (lN (bkW b)), .int (ks_bo (bkD b)), bkCv (bkC b)])
theorem bkK.setD {S : ks_S} {b : Bk} (v : Bool) (h : bkK S b) (hc : ∀ c, bkC b = some c → c.1 ≠ bkN b) : bkK (ks_set S (bkN b) (bkO (bD b v))) (bD b v) := by
  obtain ⟨g1, f2, g3, g4, ⟨q1, q2, q3, q4, q5, q6⟩, h2, h3, h4, h5, h6, h7, h8⟩ := h
  exact ⟨g1, f2, g3, g4, ⟨ks_set_same _ _ _, (ks_set_ne _ _ (by show bkN b + 1 ≠ bkN b; omega)).trans q2, (ks_set_ne _ _ (by show bkN b + 2 ≠ bkN b; omega)).trans q3, (ks_set_ne _ _ (by show bkN b + 3 ≠ bkN b; omega)).trans q4, (ks_set_ne _ _ (by show bkN b + 4 ≠ bkN b; omega)).trans q5, q6⟩, h2, h3, h4, h5, h6, h7, fun c q => ⟨(ks_set_ne S _ (hc c q)).trans (h8 c q).1, (h8 c q).2⟩⟩
theorem chX.setD {S : ks_S} {n best : Nat} {cc : Int32} {tk : Int64} {B : Nat → Bk} {D : Nat → Bool} (h : chX S n best cc tk (fun i => bD (B i) (D i))) (hS : chS n B) {x : Nat} (hx : x < n) (v : Bool) : chX (ks_set S (bkN (B x)) (bkO (bD (B x) v))) n best cc tk (fun i => bD (B i) (va_up D x v i)) := by
  obtain ⟨h1, ⟨bf, h2, h3⟩, h4, h5⟩ := h
  have b56 : 56 ≤ bkN (B x) := by
    obtain ⟨g1, f2, g3, g4, q, -⟩ := h4 x hx
    exact q.2.2.2.2.2.2.2.2.2
  refine ⟨(ks_set_ne _ _ (by omega)).trans h1, ⟨bf, (ks_set_ne _ _ (by omega)).trans h2, h3⟩, fun i hi => ?_, h5⟩
  by_cases e : i = x
  · subst e
    show bkK _ (bD (B i) (va_up D i v i))
    rw [va_up_self]
    exact bkK.setD (b := bD (B i) (D i)) v (h4 i hi) (fun c hc => by have := hS.2 i i c hi hi hc; show c.1 ≠ bkN (B i); omega)
  · show bkK _ (bD (B i) (va_up D x v i))
    rw [va_up_ne _ _ e]
    exact (h4 i hi).set2 (by have := hS.1 i x hi hx e; show _ < bkN (B i) ∨ bkN (B i) + 4 < _; omega) (fun c hc => by have := hS.2 i x c hi hx hc; omega)
def spL (B : Nat → Bk) : Nat → Nat → (Nat → Bool) → Nat → Bool
  | 0, _, D => D
  | u + 1, b, D => spL B u (b + 1) (if D (bkP (B b) - 1) = true then va_up D b true else D)
def nmL (n : Nat) (B : Nat → Bk) : List Nat := (List.range n).map (fun i => bkN (B i))
theorem nmL_mem {n : Nat} {B : Nat → Bk} {i : Nat} (h : i < n) : bkN (B i) ∈ nmL n B := List.mem_map.mpr ⟨i, List.mem_range.mpr h, rfl⟩
set_option maxRecDepth 100000 in
set_option maxHeartbeats 800000 in
theorem c_ch_spoil {l : Launch} {G : ks_G} {d : Nat} {S : ks_S} {n best : Nat} {cc : Int32} {tk : Int64} {B : Nat → Bk} (hX : chX S n best cc tk B) {x : Nat} (hW : chW n B) (hS : chS n B) (hx : x < n) : ks_P l G yX2_spoil mX2_spoil d [.ref 41, .int (nI x)] S (fun z S' => z = none ∧ ks_up S S' (nmL n B) ∧ chX S' n best cc tk (fun i => bD (B i) (spL B (n - (x + 1)) (x + 1) (va_up (fun i => bkD (B i)) x true) i))) := by
  obtain ⟨DD, hDD⟩ : ∃ D, spL B (n - (x + 1)) (x + 1) (va_up (fun i => bkD (B i)) x true) = D := ⟨_, rfl⟩
  rw [hDD]
  have hn60 := hX.2.2.2
  have loop : ∀ (u b : Nat) (S1 : ks_S) (D : Nat → Bool), b + u = n → 0 < b → spL B u b D = DD → ks_up S S1 (nmL n B) → chX S1 n best cc tk (fun i => bD (B i) (D i)) → ks_X l G mX2_spoil d 14 [(0, .ref 41), (1, .int (nI x)), (2, .int (nI b))] [] S1 (fun z S' => z = none ∧ ks_up S S' (nmL n B) ∧ chX S' n best cc tk (fun i => bD (B i) (DD i))) := by
    intro u
    induction u with
    | zero =>
      intro b S1 D hbu hb0 hd hu X1
      obtain ⟨hO, ⟨bf, h42, hbf⟩, hB, -⟩ := id X1
      have hbf : ∀ i, i < n → bf i = some (bkN (B i)) := hbf
      refine ks_iload_n dX2_spoil_14 rfl rfl ?_
      refine ks_aload_n dX2_spoil_15 rfl rfl ?_
      refine ks_getf (T := TX2) (kf := 3) kx_735 rfl in_X2 cl_X2 (by decide) hO rfl dX2_spoil_16 rfl ?_
      refine ks_icmp_geN (tgt := 58) (by omega) (by omega) dX2_spoil_19 (by decide) rfl (fun h1 => ?_) (fun h1 => ?_)
      · refine ks_ret rfl dX2_spoil_58 ?_
        have e9 : DD = D := hd.symm
        rw [e9]
        exact ⟨rfl, hu, X1⟩
      · omega
    | succ u ih =>
      intro b S1 D hbu hb0 hd hu X1
      obtain ⟨hO, ⟨bf, h42, hbf⟩, hB, -⟩ := id X1
      have hbf : ∀ i, i < n → bf i = some (bkN (B i)) := hbf
      refine ks_iload_n dX2_spoil_14 rfl rfl ?_
      refine ks_aload_n dX2_spoil_15 rfl rfl ?_
      refine ks_getf (T := TX2) (kf := 3) kx_735 rfl in_X2 cl_X2 (by decide) hO rfl dX2_spoil_16 rfl ?_
      refine ks_icmp_geN (tgt := 58) (by omega) (by omega) dX2_spoil_19 (by decide) rfl (fun h1 => ?_) (fun h1 => ?_)
      · omega
      · have hp := hW.2 b hb0 (by omega)
        obtain ⟨g1b, f2b, g3b, g4b, ob, -⟩ := hB b (by omega)
        obtain ⟨g1p, f2p, g3p, g4p, op, -⟩ := hB (bkP (B b) - 1) (by omega)
        rw [spL] at hd
        have ob1 : S1.2.2 (bkN (B b)) = some (.inr (3, [.ref (bkN (B b) + 1), .ref (bkN (B b) + 2), .ref (bkN (B b) + 3), .ref (bkN (B b) + 4), .int (nI (bkM (B b)).length), .int (nI (mg (bkM (B b)) 80)), .int (nI (bkP (B b)) - 1), .int (nI (bkH (B b))), .long (lN (bkW (B b))), .int (ks_bo (D b)), bkCv (bkC (B b))])) := ob.1
        have op1 : S1.2.2 (bkN (B (bkP (B b) - 1))) = some (.inr (3, [.ref (bkN (B (bkP (B b) - 1)) + 1), .ref (bkN (B (bkP (B b) - 1)) + 2), .ref (bkN (B (bkP (B b) - 1)) + 3), .ref (bkN (B (bkP (B b) - 1)) + 4), .int (nI (bkM (B (bkP (B b) - 1))).length), .int (nI (mg (bkM (B (bkP (B b) - 1))) 80)), .int (nI (bkP (B (bkP (B b) - 1))) - 1), .int (nI (bkH (B (bkP (B b) - 1)))), .long (lN (bkW (B (bkP (B b) - 1)))), .int (ks_bo (D (bkP (B b) - 1))), bkCv (bkC (B (bkP (B b) - 1)))])) := op.1
        refine ks_aload_n dX2_spoil_22 rfl rfl ?_
        refine ks_getf (T := TX2) (kf := 0) kx_729 rfl in_X2 cl_X2 (by decide) hO rfl dX2_spoil_23 rfl ?_
        refine ks_aload_n dX2_spoil_26 rfl rfl ?_
        refine ks_getf (T := TX2) (kf := 0) kx_729 rfl in_X2 cl_X2 (by decide) hO rfl dX2_spoil_27 rfl ?_
        refine ks_iload_n dX2_spoil_30 rfl rfl ?_
        refine ks_aaldN (i := b) (b := (bkN (B b))) (by decide) h42 rfl (by omega) (by decide) (hbf b (by omega)) dX2_spoil_31 rfl ?_
        refine ks_getf (T := TX0) (kf := 6) kx_952 rfl in_X0 cl_X0 (by decide) ob1 rfl dX2_spoil_32 rfl ?_
        rw [nI_D (by omega : 0 < bkP (B b))]
        refine ks_aaldN (i := bkP (B b) - 1) (b := (bkN (B (bkP (B b) - 1)))) (by decide) h42 rfl (by omega) (by decide) (hbf (bkP (B b) - 1) (by omega)) dX2_spoil_35 rfl ?_
        refine ks_getf (T := TX0) (kf := 9) kx_958 rfl in_X0 cl_X0 (by decide) op1 rfl dX2_spoil_36 rfl ?_
        refine ks_if_eqZ (tgt := 52) dX2_spoil_39 (by decide) rfl (fun h2 => ?_) (fun h2 => ?_)
        · rw [if_neg (by rw [h2]; decide)] at hd
          refine ks_incN (c := 1) (e := b + 1) dX2_spoil_52 rfl (by decide) rfl (by decide) rfl ?_
          refine ks_sub [(2, _), (0, _), (1, _)] rfl ?_
          refine ks_goto (tgt := 14) dX2_spoil_55 (by decide) ?_
          exact ks_sub [(0, _), (1, _), (2, _)] rfl (ih (b + 1) S1 D (by omega) (by omega) hd hu X1)
        · rw [if_pos h2] at hd
          refine ks_aload_n dX2_spoil_42 rfl rfl ?_
          refine ks_getf (T := TX2) (kf := 0) kx_729 rfl in_X2 cl_X2 (by decide) hO rfl dX2_spoil_43 rfl ?_
          refine ks_iload_n dX2_spoil_46 rfl rfl ?_
          refine ks_aaldN (i := b) (b := (bkN (B b))) (by decide) h42 rfl (by omega) (by decide) (hbf b (by omega)) dX2_spoil_47 rfl ?_
          refine ks_iconst (x := nI 1) dX2_spoil_48 (by decide) rfl ?_
          refine ks_putf (T := TX0) (kf := 9) kx_958 rfl in_X0 tyX0_ok nmX0 cl_X0 (by decide) ob1 (Nat.le_of_ble_eq_true rfl) rfl rfl rfl rfl dX2_spoil_49 rfl ?_
          refine ks_incN (c := 1) (e := b + 1) dX2_spoil_52 rfl (by decide) rfl (by decide) rfl ?_
          refine ks_sub [(2, _), (0, _), (1, _)] rfl ?_
          refine ks_goto (tgt := 14) dX2_spoil_55 (by decide) ?_
          have X2 := X1.setD hS (x := b) (by omega) true
          exact ks_sub [(0, _), (1, _), (2, _)] rfl (ih (b + 1) _ _ (by omega) (by omega) hd (hu.trans (ks_up_set _ _ (nmL_mem (by omega)))) X2)
  obtain ⟨hO, ⟨bf, h42, hbf⟩, hB, -⟩ := id hX
  obtain ⟨g1x, f2x, g3x, g4x, ox, -⟩ := hB x hx
  refine ks_of (by decide) rfl rfl (Nat.le_of_ble_eq_true rfl) ?_
  show ks_X l G mX2_spoil d 0 [(0, .ref 41), (1, .int (nI x))] [] S _
  refine ks_aload_n dX2_spoil_0 rfl rfl ?_
  refine ks_getf (T := TX2) (kf := 0) kx_729 rfl in_X2 cl_X2 (by decide) hO rfl dX2_spoil_1 rfl ?_
  refine ks_iload_n dX2_spoil_4 rfl rfl ?_
  refine ks_aaldN (i := x) (b := (bkN (B x))) (by decide) h42 rfl (by omega) (by decide) (hbf x (by omega)) dX2_spoil_5 rfl ?_
  refine ks_iconst (x := nI 1) dX2_spoil_6 (by decide) rfl ?_
  refine ks_putf (T := TX0) (kf := 9) kx_958 rfl in_X0 tyX0_ok nmX0 cl_X0 (by decide) ox.1 (Nat.le_of_ble_eq_true rfl) rfl rfl rfl rfl dX2_spoil_7 rfl ?_
  refine ks_iload_n dX2_spoil_10 rfl rfl ?_
  refine ks_iconst (x := nI 1) dX2_spoil_11 (by decide) rfl ?_
  refine ks_addN dX2_spoil_12 rfl ?_
  refine ks_istore_n dX2_spoil_13 (by decide) rfl ?_
  refine ks_sub [(2, _), (0, _), (1, _)] rfl ?_
  have X0 : chX S n best cc tk (fun i => bD (B i) (bkD (B i))) := hX
  have X2 := X0.setD hS (x := x) hx true
  exact ks_sub [(0, _), (1, _), (2, _)] rfl (loop (n - (x + 1)) (x + 1) _ _ (by omega) (by omega) hDD (ks_up_set _ _ (nmL_mem hx)) X2)
