/-! THE COINS of the best block on both sides -/
theorem pm_sum {f : Nat → Nat} {l1 l2 : List Nat} (h : l1.Perm l2) : (l1.map f).sum = (l2.map f).sum := by
  induction h with
  | nil => rfl
  | cons x _ ih => simp only [List.map_cons, List.sum_cons, ih]
  | swap x y l => simp only [List.map_cons, List.sum_cons]; omega
  | trans _ _ ih1 ih2 => exact ih1.trans ih2
theorem rmS_sum {B : Nat → Bk} {R : List Nat} : ∀ i, i ≤ R.length → rmS B R i = ((R.take i).map (rmV B)).sum
  | 0, _ => rfl
  | i + 1, h => by
    show rmS B R i + rmV B (R.getD i 0) = _
    rw [rmS_sum i (by omega), List.take_succ_eq_append_getElem (by omega), List.map_append, List.sum_append, gd_at (by omega)]
    simp only [List.map_cons, List.map_nil, List.sum_cons, List.sum_nil]
    omega
theorem cRel.sm {B : Nat → Bk} {R X : List Nat} (h : cRel B R X) : rmS B R R.length = rmS B X X.length := by
  rw [rmS_sum _ (Nat.le_refl _), rmS_sum _ (Nat.le_refl _), List.take_length, List.take_length]
  exact pm_sum h.pm
theorem cnS_k {n : Nat} {B : Nat → Bk} {L : List Nat} (hV : blV n B) (hn : n ≤ 60) (h : ∀ x ∈ L, cnG n B x) : ∀ i, i ≤ L.length → cnS B L i = rmS B (L.map fiC) i
  | 0, _ => rfl
  | i + 1, hi => by
    have ih := cnS_k hV hn h i (by omega)
    show cnS B L i + cnV B (L.getD i 0) = rmS B (L.map fiC) i + rmV B ((L.map fiC).getD i 0)
    rw [ih, getD_mp (by omega), cnV_k hV hn (h _ (getD_mem (by omega)))]
theorem rmS_e {B B' : Nat → Bk} (h : ∀ i, bkM (B' i) = bkM (B i) ∧ bkH (B' i) = bkH (B i)) {R : List Nat} : ∀ i, rmS B' R i = rmS B R i
  | 0 => rfl
  | i + 1 => by
    show rmS B' R i + rmV B' (R.getD i 0) = rmS B R i + rmV B (R.getD i 0)
    rw [rmS_e h i, rmV_n B', nB_e h, ← rmV_n]
theorem kc_sum {n : Nat} {Bc Br : Nat → Bk} {L C : List Nat} (hm : ∀ i, bkM (Br i) = bkM (Bc i) ∧ bkH (Br i) = bkH (Bc i)) (hV : blV n Bc) (hn : n ≤ 60) (h : ∀ x ∈ L, cnG n Bc x) (hr : cRel Bc C (L.map fiC)) : L.length = C.length ∧ cnS Bc L L.length = rmS Br C C.length := by
  have hl : C.length = L.length := by rw [hr.len, List.length_map]
  refine ⟨hl.symm, ?_⟩
  rw [cnS_k hV hn h _ (Nat.le_refl _), rmS_e hm, hr.sm, List.length_map]
theorem kc_look {n : Nat} {Bc Br : Nat → Bk} {L C : List Nat} (hm : ∀ i, bkM (Br i) = bkM (Bc i) ∧ bkH (Br i) = bkH (Bc i)) (hV : blV n Bc) (hn : n ≤ 60) (h : ∀ x ∈ L, cnG n Bc x) (hr : cRel Bc C (L.map fiC)) {xn : Nat} {id : Nat → Nat} (hx : xn < 2 ^ 32) : (if plL Bc (nI xn) id L = 0 then (-1 : Int64) else lN (cnV Bc (L.getD (plL Bc (nI xn) id L - 1) 0))) = (if plR Br xn id C = 0 then (-1 : Int64) else lN (rmV Br (C.getD (plR Br xn id C - 1) 0))) := by
  rw [plR_n Br, rmV_n Br, nB_e hm, ← plR_n, ← rmV_n, plL_k hV hn h hx]
  have q := hr.pl (ix := xn) (id := id)
  by_cases c : plR Bc xn id C = 0
  · rw [if_pos c, if_pos (q.1.mp c)]
  · have d : plR Bc xn id (L.map fiC) ≠ 0 := fun e => c (q.1.mpr e)
    have s := (plR_s d).1
    rw [List.length_map] at s
    rw [if_neg c, if_neg d, q.2 c, getD_mp s, cnV_k hV hn (h _ (getD_mem s))]
theorem cnG_R {n : Nat} {B : Nat → Bk} {c : Nat} (hV : blV n B) (hn : n ≤ 60) (h : cnG n B c) : cnR n B c := by
  obtain ⟨b, t, o, hb, ht, ho, rfl⟩ := h
  have h4 := (hV b hb).2.1
  have h2 := (hV b hb).1
  have b9 := blk_b h4
  have q := bk_tx h4 ht
  have q2 := tx_out (bk_tx5 h4 ht) o ho
  have q3 := tx_bd (bk_tx5 h4 ht)
  have d := @cnI_d (bkM (B b)) b t o (by omega) (by omega) (by omega) (by omega)
  refine ⟨d.1, ?_, ?_, ?_⟩
  · rw [d.2.1]; exact hb
  · rw [d.2.1, d.2.2.1]; exact ht
  · rw [d.2.1, d.2.2.2.2]; omega
