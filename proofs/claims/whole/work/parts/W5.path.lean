/-! THE PATH to a block -/
theorem upL_f {n : Nat} {B : Nat → Bk} (hW : chW n B) : ∀ (f g k : Nat), k ≤ n → k ≤ f → k ≤ g → upL B f k = upL B g k
  | 0, 0, k, _, _, _ => rfl
  | 0, g + 1, k, _, h, _ => by
    rw [show k = 0 by omega]
    show [] = (if 0 = 0 then [] else (0 - 1) :: upL B g (bkP (B (0 - 1))))
    rw [if_pos rfl]
  | f + 1, 0, k, _, _, h => by
    rw [show k = 0 by omega]
    show (if 0 = 0 then [] else (0 - 1) :: upL B f (bkP (B (0 - 1)))) = []
    rw [if_pos rfl]
  | f + 1, g + 1, k, hk, h1, h2 => by
    unfold upL
    by_cases c : k = 0
    · rw [if_pos c, if_pos c]
    · rw [if_neg c, if_neg c]
      have hp : bkP (B (k - 1)) ≤ k - 1 := by
        by_cases d : k - 1 = 0
        · rw [d, hW.1]; exact Nat.le_refl _
        · exact (hW.2 (k - 1) (by omega) (by omega)).2
      rw [upL_f hW f g (bkP (B (k - 1))) (by omega) (by omega) (by omega)]
/-- the blocks from the first to b -/
def upP (B : Nat → Bk) (b : Nat) : List Nat := (upL B (b + 1) (b + 1)).reverse
theorem upP_0 {B : Nat → Bk} : upP B 0 = [0] := rfl
theorem upP_s {n : Nat} {B : Nat → Bk} (hW : chW n B) {b : Nat} (hb : b < n) (h0 : 0 < b) : upP B b = upP B (bkP (B b) - 1) ++ [b] := by
  have hp := hW.2 b h0 hb
  unfold upP
  have e : upL B (b + 1) (b + 1) = b :: upL B b (bkP (B b)) := by
    show (if b + 1 = 0 then [] else (b + 1 - 1) :: upL B b (bkP (B (b + 1 - 1)))) = _
    rw [if_neg (by omega), Nat.add_sub_cancel]
  rw [e, List.reverse_cons, show bkP (B b) - 1 + 1 = bkP (B b) by omega, upL_f hW b (bkP (B b)) (bkP (B b)) (by omega) hp.2 (Nat.le_refl _)]
/-- connecting along a path without looking at scripts -/
def ptF (Gp : Pt) (B : Nat → Bk) : List Nat → List Nat → Nat × List Nat
  | [], R => (0, R)
  | b :: r, R => if (rcF Gp true B (bkM (B b)) b (bkH (B b)) (mg (bkM (B b)) 80) 0 R 0).1 = 0 then ptF Gp B r (rcF Gp true B (bkM (B b)) b (bkH (B b)) (mg (bkM (B b)) 80) 0 R 0).2 else ((rcF Gp true B (bkM (B b)) b (bkH (B b)) (mg (bkM (B b)) 80) 0 R 0).1, R)
theorem ptF_app {Gp : Pt} {B : Nat → Bk} (l2 : List Nat) : ∀ (l1 R : List Nat), ptF Gp B (l1 ++ l2) R = if (ptF Gp B l1 R).1 = 0 then ptF Gp B l2 (ptF Gp B l1 R).2 else ptF Gp B l1 R
  | [], R => by
    show ptF Gp B l2 R = (if (0 : Nat) = 0 then ptF Gp B l2 R else (0, R))
    rw [if_pos rfl]
  | b :: r, R => by
    show (if (rcF Gp true B (bkM (B b)) b (bkH (B b)) (mg (bkM (B b)) 80) 0 R 0).1 = 0 then ptF Gp B (r ++ l2) (rcF Gp true B (bkM (B b)) b (bkH (B b)) (mg (bkM (B b)) 80) 0 R 0).2 else ((rcF Gp true B (bkM (B b)) b (bkH (B b)) (mg (bkM (B b)) 80) 0 R 0).1, R)) = _
    by_cases c : (rcF Gp true B (bkM (B b)) b (bkH (B b)) (mg (bkM (B b)) 80) 0 R 0).1 = 0
    · rw [if_pos c, ptF_app l2 r]
      have e : ptF Gp B (b :: r) R = ptF Gp B r (rcF Gp true B (bkM (B b)) b (bkH (B b)) (mg (bkM (B b)) 80) 0 R 0).2 := if_pos c
      rw [e]
    · rw [if_neg c]
      have e : ptF Gp B (b :: r) R = ((rcF Gp true B (bkM (B b)) b (bkH (B b)) (mg (bkM (B b)) 80) 0 R 0).1, R) := if_neg c
      rw [e, if_neg c]
theorem ptF_n (Gp : Pt) (B : Nat → Bk) : ∀ l : List Nat, ptF Gp B l = ptF Gp (nB B) l
  | [] => rfl
  | b :: r => by
    funext R
    unfold ptF
    rw [ptF_n Gp B r, rcF_n Gp true B]
    rfl
theorem ptF_e {Gp : Pt} {B B' : Nat → Bk} (h : ∀ i, bkM (B' i) = bkM (B i) ∧ bkH (B' i) = bkH (B i)) (l : List Nat) : ptF Gp B' l = ptF Gp B l := by
  rw [ptF_n, ptF_n Gp B, nB_e h]
theorem ptF_s {Gp : Pt} {n : Nat} {B : Nat → Bk} (hW : chW n B) {b : Nat} {R R1 : List Nat} (hb : b < n) (h0 : 0 < b) (h1 : ptF Gp B (upP B (bkP (B b) - 1)) [] = (0, R)) (h2 : (rcF Gp true B (bkM (B b)) b (bkH (B b)) (mg (bkM (B b)) 80) 0 R 0) = (0, R1)) : ptF Gp B (upP B b) [] = (0, R1) := by
  rw [upP_s hW hb h0, ptF_app, h1, if_pos rfl]
  show (if (rcF Gp true B (bkM (B b)) b (bkH (B b)) (mg (bkM (B b)) 80) 0 R 0).1 = 0 then (0, (rcF Gp true B (bkM (B b)) b (bkH (B b)) (mg (bkM (B b)) 80) 0 R 0).2) else ((rcF Gp true B (bkM (B b)) b (bkH (B b)) (mg (bkM (B b)) 80) 0 R 0).1, R)) = _
  rw [h2, if_pos rfl]
theorem ckB_f {B : Nat → Bk} {b : Nat} (h : (bkC (B b)).isSome = true) (i : Nat) : bkD (ckB B b i) = bkD (B i) ∧ (bkC (ckB B b i)).isSome = (bkC (B i)).isSome := by
  unfold ckB
  by_cases c : i = b
  · rw [if_pos c, c, h]; exact ⟨rfl, rfl⟩
  · rw [if_neg c]; exact ⟨rfl, rfl⟩
/-- blocks that were looked at before: the reference counts their coins again -/
theorem rch_flag {Gp : Pt} {n : Nat} : ∀ (l : List Nat) (B : Nat → Bk) (R R1 : List Nat), (∀ x ∈ l, (bkC (B x)).isSome = true) → ptF Gp B l R = (0, R1) → ∃ B1, rchF Gp n l B R = (0, R1, B1) ∧ eqB B B1 ∧ ∀ i, bkD (B1 i) = bkD (B i) ∧ (bkC (B1 i)).isSome = (bkC (B i)).isSome
  | [], B, R, R1, _, h => by
    have e : R = R1 := congrArg Prod.snd h
    rw [← e]
    exact ⟨B, rfl, eqB.rf B, fun i => ⟨rfl, rfl⟩⟩
  | b :: r, B, R, R1, hf, h => by
    have hb := hf b (List.mem_cons_self ..)
    unfold ptF at h
    unfold rchF
    rw [hb]
    by_cases c : (rcF Gp true B (bkM (B b)) b (bkH (B b)) (mg (bkM (B b)) 80) 0 R 0).1 = 0
    · rw [if_pos c] at h ⊢
      have he := eqB.ck B b
      have hp : ptF Gp (ckB B b) r = ptF Gp B r := ptF_e (fun i => ⟨(he i).2.1, (he i).2.2.2.1⟩) r
      obtain ⟨B1, q1, q2, q3⟩ := rch_flag r (ckB B b) (rcF Gp true B (bkM (B b)) b (bkH (B b)) (mg (bkM (B b)) 80) 0 R 0).2 R1 (fun x hx => by rw [(ckB_f hb x).2]; exact hf x (List.mem_cons_of_mem _ hx)) (by rw [hp]; exact h)
      exact ⟨B1, q1, he.trans q2, fun i => ⟨(q3 i).1.trans (ckB_f hb i).1, (q3 i).2.trans (ckB_f hb i).2⟩⟩
    · rw [if_neg c] at h
      exact absurd (congrArg Prod.fst h) c
theorem rchF_app {Gp : Pt} {n : Nat} (l2 : List Nat) : ∀ (l1 : List Nat) (B : Nat → Bk) (R R1 : List Nat) (B1 : Nat → Bk), rchF Gp n l1 B R = (0, R1, B1) → rchF Gp n (l1 ++ l2) B R = rchF Gp n l2 B1 R1
  | [], B, R, R1, B1, h => by
    have e : (R, B) = (R1, B1) := congrArg Prod.snd h
    have e1 : R = R1 := congrArg Prod.fst e
    have e2 : B = B1 := congrArg Prod.snd e
    rw [← e1, ← e2]
    rfl
  | b :: r, B, R, R1, B1, h => by
    rw [List.cons_append]
    have e : ∀ l, rchF Gp n (b :: l) B R = if (rcF Gp (bkC (B b)).isSome B (bkM (B b)) b (bkH (B b)) (mg (bkM (B b)) 80) 0 R 0).1 = 0 then rchF Gp n l (ckB B b) (rcF Gp (bkC (B b)).isSome B (bkM (B b)) b (bkH (B b)) (mg (bkM (B b)) 80) 0 R 0).2 else ((rcF Gp (bkC (B b)).isSome B (bkM (B b)) b (bkH (B b)) (mg (bkM (B b)) 80) 0 R 0).1, R, sbL B n b (n - b) b B) := fun l => rfl
    rw [e] at h ⊢
    by_cases c : (rcF Gp (bkC (B b)).isSome B (bkM (B b)) b (bkH (B b)) (mg (bkM (B b)) 80) 0 R 0).1 = 0
    · rw [if_pos c] at h ⊢
      exact rchF_app l2 r _ _ _ _ h
    · rw [if_neg c] at h
      exact absurd (congrArg Prod.fst h) c
