/-! SCRIPTS: operations taken out -/
/-- the operations that P doesn't want, taken out; what is no operation stays -/
def flN (P : Nat → List Nat → Bool) : Nat → List Nat → List Nat
  | 0, c => c
  | f + 1, c => match afL c with
    | none => c
    | some k => (if P (c.headD 0) ((c.take k).drop (hdS (c.headD 0))) = true then [] else c.take k) ++ flN P f (c.drop k)
def fl_ (P : Nat → List Nat → Bool) (c : List Nat) : List Nat := flN P c.length c
theorem flN_n {P : Nat → List Nat → Bool} {c : List Nat} (h : afL c = none) : ∀ f, flN P f c = c
  | 0 => rfl
  | f + 1 => by unfold flN; rw [h]
theorem flN_s {P : Nat → List Nat → Bool} {c : List Nat} {k : Nat} (h : afL c = some k) (f : Nat) : flN P (f + 1) c = (if P (c.headD 0) ((c.take k).drop (hdS (c.headD 0))) = true then [] else c.take k) ++ flN P f (c.drop k) := by
  show (match afL c with
    | none => c
    | some k => (if P (c.headD 0) ((c.take k).drop (hdS (c.headD 0))) = true then [] else c.take k) ++ flN P f (c.drop k)) = _
  rw [h]
/-- more fuel than bytes changes nothing -/
theorem flN_f (P : Nat → List Nat → Bool) : ∀ (f g : Nat) (c : List Nat), c.length ≤ f → c.length ≤ g → flN P f c = flN P g c
  | 0, 0, c, _, _ => rfl
  | 0, g + 1, c, h, _ => by
    have c0 : c = [] := List.length_eq_zero_iff.mp (by omega)
    subst c0
    rw [flN_n (f := g + 1) rfl]
    rfl
  | f + 1, 0, c, _, h => by
    have c0 : c = [] := List.length_eq_zero_iff.mp (by omega)
    subst c0
    rw [flN_n (f := f + 1) rfl]
    rfl
  | f + 1, g + 1, c, h1, h2 => by
    cases ha : afL c with
    | none => rw [flN_n ha, flN_n ha]
    | some k =>
      have hb := afL_b ha
      rw [flN_s ha, flN_s ha, flN_f P f g (c.drop k) (by rw [List.length_drop]; omega) (by rw [List.length_drop]; omega)]
theorem fl_n {P : Nat → List Nat → Bool} {c : List Nat} (h : afL c = none) : fl_ P c = c := flN_n h _
theorem fl_s {P : Nat → List Nat → Bool} {c : List Nat} {k : Nat} (h : afL c = some k) : fl_ P c = (if P (c.headD 0) ((c.take k).drop (hdS (c.headD 0))) = true then [] else c.take k) ++ fl_ P (c.drop k) := by
  have hb := afL_b h
  unfold fl_
  obtain ⟨m, hm⟩ : ∃ m, c.length = m + 1 := ⟨c.length - 1, by omega⟩
  rw [hm, flN_s h, flN_f P m (c.drop k).length (c.drop k) (by rw [List.length_drop]; omega) (Nat.le_refl _)]
theorem fl_len (P : Nat → List Nat → Bool) : ∀ (n : Nat) (c : List Nat), c.length ≤ n → (fl_ P c).length ≤ c.length
  | 0, c, h => by
    have c0 : c = [] := List.length_eq_zero_iff.mp (by omega)
    subst c0
    exact Nat.le_refl _
  | n + 1, c, h => by
    cases ha : afL c with
    | none => rw [fl_n ha]; exact Nat.le_refl _
    | some k =>
      have hb := afL_b ha
      have h1 := fl_len P n (c.drop k) (by rw [List.length_drop]; omega)
      rw [fl_s ha, List.length_append]
      rw [List.length_drop] at h1
      split
      · show 0 + _ ≤ _; omega
      · rw [List.length_take]; omega
/-- an operation is the same whatever follows -/
theorem afL_app {c : List Nat} {k : Nat} (h : afL c = some k) (r : List Nat) : afL (c.take k ++ r) = some k ∧ (c.take k ++ r).headD 0 = c.headD 0 ∧ (c.take k ++ r).take k = c.take k ∧ (c.take k ++ r).drop k = r := by
  have hb := afL_b h
  match c, h, hb with
  | op :: t, h, hb =>
    have hb1 : 1 ≤ k := hb.1
    have hb2 : k ≤ t.length + 1 := hb.2.1
    have hb3 : hdS op ≤ k := hb.2.2
    obtain ⟨m, rfl⟩ : ∃ m, k = m + 1 := ⟨k - 1, by omega⟩
    have hd1 := hdS_b op
    have lt : ((op :: t).take (m + 1)).length = m + 1 := by rw [List.length_take]; show min (m + 1) (t.length + 1) = m + 1; omega
    refine ⟨?_, rfl, ?_, ?_⟩
    · show afL (op :: (t.take m ++ r)) = some (m + 1)
      simp only [afL] at h ⊢
      have l1 : (t.take m).length = m := by rw [List.length_take]; omega
      have tk : (t.take m ++ r).take (hdS op - 1) = t.take (hdS op - 1) := by
        rw [List.take_append_of_le_length (by omega), List.take_take, Nat.min_eq_left (by omega)]
      rw [tk]
      have ll : (t.take m ++ r).length = m + r.length := by rw [List.length_append, l1]
      obtain ⟨z, ez⟩ : ∃ z, z = if op < 76 then op else leV (t.take (hdS op - 1)) := ⟨_, rfl⟩
      rw [← ez] at h ⊢
      by_cases c1 : t.length < hdS op - 1
      · rw [if_pos c1] at h; cases h
      · rw [if_neg c1] at h
        by_cases c2 : t.length - (hdS op - 1) < z
        · rw [if_pos c2] at h; cases h
        · rw [if_neg c2] at h
          have e := Option.some.inj h
          rw [if_neg (by omega), if_neg (by omega), e]
    · rw [List.take_append_of_le_length (by omega), List.take_of_length_le (by omega)]
    · rw [List.drop_append_of_le_length (by omega), List.drop_of_length_le (by omega), List.nil_append]
/-- taken out one after the other -/
theorem fl_fl (P Q : Nat → List Nat → Bool) : ∀ (n : Nat) (c : List Nat), c.length ≤ n → fl_ P (fl_ Q c) = fl_ (fun o x => Q o x || P o x) c
  | 0, c, h => by
    have c0 : c = [] := List.length_eq_zero_iff.mp (by omega)
    subst c0
    rfl
  | n + 1, c, h => by
    cases ha : afL c with
    | none => rw [fl_n ha, fl_n ha, fl_n ha]
    | some k =>
      have hb := afL_b ha
      have ih := fl_fl P Q n (c.drop k) (by rw [List.length_drop]; omega)
      rw [fl_s (P := Q) ha, fl_s (P := fun o x => Q o x || P o x) ha]
      by_cases q : Q (c.headD 0) ((c.take k).drop (hdS (c.headD 0))) = true
      · rw [if_pos q, if_pos (by rw [q]; rfl), List.nil_append, List.nil_append, ih]
      · have q' : Q (c.headD 0) ((c.take k).drop (hdS (c.headD 0))) = false := by cases hq : Q (c.headD 0) ((c.take k).drop (hdS (c.headD 0))) with
          | true => exact absurd hq q
          | false => rfl
        rw [if_neg q, q', Bool.false_or]
        obtain ⟨a1, a2, a3, a4⟩ := afL_app ha (fl_ Q (c.drop k))
        rw [fl_s (P := P) a1, a2, a3, a4, ih]
theorem fl_no {P : Nat → List Nat → Bool} (h : ∀ o x, P o x = false) : ∀ (n : Nat) (c : List Nat), c.length ≤ n → fl_ P c = c
  | 0, c, hc => by
    have c0 : c = [] := List.length_eq_zero_iff.mp (by omega)
    subst c0
    rfl
  | n + 1, c, hc => by
    cases ha : afL c with
    | none => rw [fl_n ha]
    | some k =>
      have hb := afL_b ha
      rw [fl_s ha, if_neg (by rw [h]; decide), fl_no h n (c.drop k) (by rw [List.length_drop]; omega), List.take_append_drop]
theorem fl_c {P Q : Nat → List Nat → Bool} (h : ∀ o x, P o x = Q o x) (c : List Nat) : fl_ P c = fl_ Q c := by
  rw [show P = Q from funext fun o => funext fun x => h o x]
theorem clnN_fl (sg : List (List Nat)) : ∀ (f : Nat) (c : List Nat), clnN f sg c = flN (fun o x => decide (o = 171) || anySg o x sg) f c
  | 0, c => rfl
  | f + 1, c => by
    unfold clnN flN
    cases ha : afL c with
    | none => rfl
    | some k =>
      show (if _ then _ else _) ++ clnN f sg (c.drop k) = (if _ then _ else _) ++ _
      rw [clnN_fl sg f (c.drop k)]
      congr 1
      by_cases h : c.headD 0 = 171 ∨ anySg (c.headD 0) ((c.take k).drop (hdS (c.headD 0))) sg = true
      · rw [if_pos h, if_pos (by rcases h with h | h; rw [decide_eq_true h]; rfl; rw [h, Bool.or_true])]
      · rw [if_neg h, if_neg (fun h2 => h (by rcases Bool.or_eq_true_iff.mp h2 with h3 | h3; exact Or.inl (of_decide_eq_true h3); exact Or.inr h3))]
theorem cln_fl (sg : List (List Nat)) (c : List Nat) : cln_ sg c = fl_ (fun o x => decide (o = 171) || anySg o x sg) c := clnN_fl sg _ c
/-- all of sg taken out, one after the other -/
def woL : List (List Nat) → List Nat → List Nat
  | [], c => c
  | s :: r, c => woL r (fl_ (fun o x => isSg o x s) c)
theorem woL_fl : ∀ (sg : List (List Nat)) (c : List Nat), woL sg c = fl_ (fun o x => anySg o x sg) c
  | [], c => (fl_no (P := fun o x => anySg o x []) (fun _ _ => rfl) c.length c (Nat.le_refl _)).symm
  | s :: r, c => by
    unfold woL
    rw [woL_fl r, fl_fl _ _ c.length c (Nat.le_refl _)]
    exact fl_c (fun o x => rfl) c
/-- the code that is signed, as the reference makes it -/
theorem cln_wo (sg : List (List Nat)) (c : List Nat) : fl_ (fun o _ => decide (o = 171)) (woL sg c) = cln_ sg c := by
  rw [woL_fl, fl_fl _ _ c.length c (Nat.le_refl _), cln_fl]
  exact fl_c (fun o x => Bool.or_comm _ _) c
