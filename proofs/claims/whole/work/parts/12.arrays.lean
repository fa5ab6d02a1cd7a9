/-! Arrays, Math -/
/-- a stretch of a row filled -/
def ks_fill {α : Type} (g : Nat → α) (i j : Nat) (x : α) : Nat → α := fun k => if i ≤ k ∧ k < j then x else g k
theorem ks_fill_0 {α : Type} (g : Nat → α) (i : Nat) (x : α) : ks_fill g i i x = g := by
  funext k
  unfold ks_fill
  rw [if_neg (by omega)]
theorem ks_fill_s {α : Type} (g : Nat → α) {i j : Nat} (x : α) (h : i ≤ j) : va_up (ks_fill g i j x) j x = ks_fill g i (j + 1) x := by
  funext k
  unfold va_up ks_fill
  by_cases e : k = j
  · subst e
    rw [if_pos rfl, if_pos (by omega)]
  · rw [if_neg e]
    by_cases h2 : i ≤ k ∧ k < j
    · rw [if_pos h2, if_pos (by omega)]
    · rw [if_neg h2, if_neg (by omega)]
theorem kO_fill {g : Nat → Nat} (h : kO g) (i j : Nat) {c : Nat} (hc : c < 256) : kO (ks_fill g i j c) := fun k => by
  unfold ks_fill
  by_cases e : i ≤ k ∧ k < j <;> simp [e, hc, h k]
set_option maxRecDepth 100000 in
set_option maxHeartbeats 4000000 in
theorem c_rangeCheck {l : Launch} {G : ks_G} {d : Nat} {S : ks_S} {n i j : Nat} (hij : i ≤ j) (hj : j ≤ n) (hn : n < 2 ^ 31) : ks_P l G yJ7_rangeCheck_23922 mJ7_rangeCheck_23922 d [.int (nI n), .int (nI i), .int (nI j)] S (fun r S' => r = none ∧ S' = S) := by
  refine ks_of (by decide) rfl rfl (Nat.le_of_ble_eq_true rfl) ?_
  show ks_X l G mJ7_rangeCheck_23922 d 0 [(0, .int (nI n)), (1, .int (nI i)), (2, .int (nI j))] [] S _
  refine ks_iload_n dJ7_rangeCheck_23922_0 rfl rfl ?_
  refine ks_iload_n dJ7_rangeCheck_23922_1 rfl rfl ?_
  refine ks_icmp_le (tgt := 46) dJ7_rangeCheck_23922_2 (by decide) rfl (fun hc => ?_) (fun hc => ?_)
  · refine ks_iload_n dJ7_rangeCheck_23922_46 rfl rfl ?_
    refine ks_if_ge (tgt := 59) dJ7_rangeCheck_23922_47 (by decide) rfl (fun hc => ?_) (fun hc => ?_)
    · refine ks_iload_n dJ7_rangeCheck_23922_59 rfl rfl ?_
      refine ks_iload_n dJ7_rangeCheck_23922_60 rfl rfl ?_
      refine ks_icmp_le (tgt := 73) dJ7_rangeCheck_23922_61 (by decide) rfl (fun hc => ?_) (fun hc => ?_)
      · refine ks_ret rfl dJ7_rangeCheck_23922_73 ?_
        exact ⟨rfl, rfl⟩
      · exact absurd (nI_le hj hn) hc
    · exact absurd (nI_pos' (by omega)) hc
  · exact absurd (nI_le hij (by omega)) hc
set_option maxRecDepth 100000 in
set_option maxHeartbeats 4000000 in
theorem c_fillB {l : Launch} {G : ks_G} {d : Nat} {S : ks_S} {a N : Nat} {g : Nat → Nat} {x : Int32} (ha : S.2.2 a = some (kB N g)) (hN : N < 2 ^ 31) : ks_P l G yJ7_fill_031fb mJ7_fill_031fb d [.ref a, .int x] S (fun r S' => r = none ∧ S' = ks_set S a (kB N (ks_fill g 0 N (ks_by x)))) := by
  have loop : ∀ k i, i + k = N → ks_X l G mJ7_fill_031fb d 5 [(2, .int (nI i)), (3, .int (nI N)), (0, .ref a), (1, .int x)] [] (ks_set S a (kB N (ks_fill g 0 i (ks_by x)))) (fun r S' => r = none ∧ S' = ks_set S a (kB N (ks_fill g 0 N (ks_by x)))) := by
    intro k
    induction k with
    | zero =>
      intro i hi
      refine ks_iload_n dJ7_fill_031fb_5 rfl rfl ?_
      refine ks_iload_n dJ7_fill_031fb_6 rfl rfl ?_
      refine ks_icmp_ge (tgt := 20) dJ7_fill_031fb_7 (by decide) rfl (fun hc => ?_) (fun hc => ?_)
      · refine ks_ret rfl dJ7_fill_031fb_20 ?_
        exact ⟨rfl, by rw [show i = N by omega]⟩
      · exact absurd (nI_le (by omega) (by omega)) hc
    | succ k ih =>
      intro i hi
      refine ks_iload_n dJ7_fill_031fb_5 rfl rfl ?_
      refine ks_iload_n dJ7_fill_031fb_6 rfl rfl ?_
      refine ks_icmp_ge (tgt := 20) dJ7_fill_031fb_7 (by decide) rfl (fun hc => ?_) (fun hc => ?_)
      · exact absurd hc (nI_ge (by omega) (by omega))
      · refine ks_aload_n dJ7_fill_031fb_10 rfl rfl ?_
        refine ks_iload_n dJ7_fill_031fb_11 rfl rfl ?_
        refine ks_iload_n dJ7_fill_031fb_12 rfl rfl ?_
        refine ks_bastB (ks_set_same _ _ _) rfl (by omega) hN rfl dJ7_fill_031fb_13 rfl ?_
        refine ks_iinc (y := nI (i + 1)) dJ7_fill_031fb_14 rfl (ks_p1 i) (by decide) rfl ?_
        refine ks_goto (tgt := 5) dJ7_fill_031fb_17 (by decide) ?_
        refine ks_tS (by rw [ks_set_set, ks_fill_s _ _ (Nat.zero_le _)]) ?_
        exact ks_sub _ rfl (ih (i + 1) (by omega))
  refine ks_of (by decide) rfl rfl (Nat.le_of_ble_eq_true rfl) ?_
  show ks_X l G mJ7_fill_031fb d 0 [(0, .ref a), (1, .int x)] [] S _
  refine ks_iconst (x := 0) dJ7_fill_031fb_0 (by decide) rfl ?_
  refine ks_istore_n dJ7_fill_031fb_1 (by decide) rfl ?_
  refine ks_aload_n dJ7_fill_031fb_2 rfl rfl ?_
  refine ks_alenT (by decide) (by decide) ha rfl dJ7_fill_031fb_3 rfl ?_
  refine ks_istore_n dJ7_fill_031fb_4 (by decide) rfl ?_
  have h9 := loop N 0 (by omega)
  rw [ks_fill_0, ks_set_id S ha] at h9
  exact ks_sub _ rfl h9
set_option maxRecDepth 100000 in
set_option maxHeartbeats 4000000 in
theorem c_fillBr {l : Launch} {G : ks_G} {d : Nat} {S : ks_S} {a N i j : Nat} {g : Nat → Nat} {x : Int32} (ha : S.2.2 a = some (kB N g)) (hij : i ≤ j) (hj : j ≤ N) (hN : N < 2 ^ 31) : ks_P l G yJ7_fill_eb02e mJ7_fill_eb02e (d + 1) [.ref a, .int (nI i), .int (nI j), .int x] S (fun r S' => r = none ∧ S' = ks_set S a (kB N (ks_fill g i j (ks_by x)))) := by
  have loop : ∀ k q, q + k = j → i ≤ q → ks_X l G mJ7_fill_eb02e (d + 1) 10 [(4, .int (nI q)), (0, .ref a), (2, .int (nI j)), (3, .int x)] [] (ks_set S a (kB N (ks_fill g i q (ks_by x)))) (fun r S' => r = none ∧ S' = ks_set S a (kB N (ks_fill g i j (ks_by x)))) := by
    intro k
    induction k with
    | zero =>
      intro q hq hiq
      refine ks_iload dJ7_fill_eb02e_10 rfl rfl ?_
      refine ks_iload_n dJ7_fill_eb02e_12 rfl rfl ?_
      refine ks_icmp_ge (tgt := 27) dJ7_fill_eb02e_13 (by decide) rfl (fun hc => ?_) (fun hc => ?_)
      · refine ks_ret rfl dJ7_fill_eb02e_27 ?_
        exact ⟨rfl, by rw [show q = j by omega]⟩
      · exact absurd (nI_le (by omega) (by omega)) hc
    | succ k ih =>
      intro q hq hiq
      refine ks_iload dJ7_fill_eb02e_10 rfl rfl ?_
      refine ks_iload_n dJ7_fill_eb02e_12 rfl rfl ?_
      refine ks_icmp_ge (tgt := 27) dJ7_fill_eb02e_13 (by decide) rfl (fun hc => ?_) (fun hc => ?_)
      · exact absurd hc (nI_ge (by omega) (by omega))
      · refine ks_aload_n dJ7_fill_eb02e_16 rfl rfl ?_
        refine ks_iload dJ7_fill_eb02e_17 rfl rfl ?_
        refine ks_iload_n dJ7_fill_eb02e_19 rfl rfl ?_
        refine ks_bastB (ks_set_same _ _ _) rfl (by omega) hN rfl dJ7_fill_eb02e_20 rfl ?_
        refine ks_iinc (y := nI (q + 1)) dJ7_fill_eb02e_21 rfl (ks_p1 q) (by decide) rfl ?_
        refine ks_goto (tgt := 10) dJ7_fill_eb02e_24 (by decide) ?_
        refine ks_tS (by rw [ks_set_set, ks_fill_s _ _ hiq]) ?_
        exact ks_sub _ rfl (ih (q + 1) (by omega) (by omega))
  refine ks_of (by decide) rfl rfl (Nat.le_of_ble_eq_true rfl) ?_
  show ks_X l G mJ7_fill_eb02e (d + 1) 0 [(0, .ref a), (1, .int (nI i)), (2, .int (nI j)), (3, .int x)] [] S _
  refine ks_aload_n dJ7_fill_eb02e_0 rfl rfl ?_
  refine ks_alenT (by decide) (by decide) ha rfl dJ7_fill_eb02e_1 rfl ?_
  refine ks_iload_n dJ7_fill_eb02e_2 rfl rfl ?_
  refine ks_iload_n dJ7_fill_eb02e_3 rfl rfl ?_
  refine ks_callS (n := 3) (M' := mJ7_rangeCheck_23922) (c_rangeCheck hij hj hN) kx_152 kx_153 kx_6 kx_154 (by decide +kernel) rfl (by decide) (by decide) rfl dJ7_fill_eb02e_4 rfl (fun r1 S1 h1 => ?_)
  obtain ⟨rfl, rfl⟩ := h1
  refine ks_iload_n dJ7_fill_eb02e_7 rfl rfl ?_
  refine ks_istore dJ7_fill_eb02e_8 (by decide) rfl ?_
  have h9 := loop (j - i) i (by omega) (Nat.le_refl _)
  rw [ks_fill_0, ks_set_id _ ha] at h9
  exact ks_sub _ rfl h9
set_option maxRecDepth 100000 in
set_option maxHeartbeats 4000000 in
theorem c_fillJr {l : Launch} {G : ks_G} {d : Nat} {S : ks_S} {a N i j : Nat} {g : Nat → Int64} {x : Int64} (ha : S.2.2 a = some (.inl (2, N, .inr (.inl g)))) (hij : i ≤ j) (hj : j ≤ N) (hN : N < 2 ^ 31) : ks_P l G yJ7_fill_bad5a mJ7_fill_bad5a (d + 1) [.ref a, .int (nI i), .int (nI j), .long x] S (fun r S' => r = none ∧ S' = ks_set S a (.inl (2, N, .inr (.inl (ks_fill g i j x))))) := by
  have loop : ∀ k q, q + k = j → i ≤ q → ks_X l G mJ7_fill_bad5a (d + 1) 10 [(5, .int (nI q)), (0, .ref a), (2, .int (nI j)), (3, .long x)] [] (ks_set S a (.inl (2, N, .inr (.inl (ks_fill g i q x))))) (fun r S' => r = none ∧ S' = ks_set S a (.inl (2, N, .inr (.inl (ks_fill g i j x))))) := by
    intro k
    induction k with
    | zero =>
      intro q hq hiq
      refine ks_iload dJ7_fill_bad5a_10 rfl rfl ?_
      refine ks_iload_n dJ7_fill_bad5a_12 rfl rfl ?_
      refine ks_icmp_ge (tgt := 27) dJ7_fill_bad5a_13 (by decide) rfl (fun hc => ?_) (fun hc => ?_)
      · refine ks_ret rfl dJ7_fill_bad5a_27 ?_
        exact ⟨rfl, by rw [show q = j by omega]⟩
      · exact absurd (nI_le (by omega) (by omega)) hc
    | succ k ih =>
      intro q hq hiq
      refine ks_iload dJ7_fill_bad5a_10 rfl rfl ?_
      refine ks_iload_n dJ7_fill_bad5a_12 rfl rfl ?_
      refine ks_icmp_ge (tgt := 27) dJ7_fill_bad5a_13 (by decide) rfl (fun hc => ?_) (fun hc => ?_)
      · exact absurd hc (nI_ge (by omega) (by omega))
      · refine ks_aload_n dJ7_fill_bad5a_16 rfl rfl ?_
        refine ks_iload dJ7_fill_bad5a_17 rfl rfl ?_
        refine ks_lload_n dJ7_fill_bad5a_19 rfl rfl ?_
        refine ks_lastN (ks_set_same _ _ _) rfl (by omega) hN dJ7_fill_bad5a_20 rfl ?_
        refine ks_iinc (y := nI (q + 1)) dJ7_fill_bad5a_21 rfl (ks_p1 q) (by decide) rfl ?_
        refine ks_goto (tgt := 10) dJ7_fill_bad5a_24 (by decide) ?_
        refine ks_tS (by rw [ks_set_set, ks_fill_s _ _ hiq]) ?_
        exact ks_sub _ rfl (ih (q + 1) (by omega) (by omega))
  refine ks_of (by decide) rfl rfl (Nat.le_of_ble_eq_true rfl) ?_
  show ks_X l G mJ7_fill_bad5a (d + 1) 0 [(0, .ref a), (1, .int (nI i)), (2, .int (nI j)), (3, .long x)] [] S _
  refine ks_aload_n dJ7_fill_bad5a_0 rfl rfl ?_
  refine ks_alenT (by decide) (by decide) ha rfl dJ7_fill_bad5a_1 rfl ?_
  refine ks_iload_n dJ7_fill_bad5a_2 rfl rfl ?_
  refine ks_iload_n dJ7_fill_bad5a_3 rfl rfl ?_
  refine ks_callS (n := 3) (M' := mJ7_rangeCheck_23922) (c_rangeCheck hij hj hN) kx_152 kx_153 kx_6 kx_154 (by decide +kernel) rfl (by decide) (by decide) rfl dJ7_fill_bad5a_4 rfl (fun r1 S1 h1 => ?_)
  obtain ⟨rfl, rfl⟩ := h1
  refine ks_iload_n dJ7_fill_bad5a_7 rfl rfl ?_
  refine ks_istore dJ7_fill_bad5a_8 (by decide) rfl ?_
  have h9 := loop (j - i) i (by omega) (Nat.le_refl _)
  rw [ks_fill_0, ks_set_id _ ha] at h9
  exact ks_sub _ rfl h9
section KsMath
variable {l : Launch} {G : ks_G} {M : ks_M} {d pc pc' : Nat} {lv : List (Nat × Value)} {st : List Value} {S : ks_S} {P : Option Value → ks_S → Prop}
theorem ks_maxJ {ix : Nat} {x y : Int64} (hlk : Cond.methodLink M.1 ix Lib.MathLoose.max_long.x ∈ lw_tbl) (hstc : Cond.static Lib.MathLoose.max_long.x ∈ lw_tbl) (hini : Cond.initialized "java/lang/Math" ∈ lw_tbl) (hcd : Cond.code Lib.MathLoose.max_long.x Lib.MathLoose.max_long.code 4 (some .long) ∈ lw_tbl) (hd1 : 1 ≤ d) (hsm : (st.map fun v => v.category).sum ≤ 8) (hd : decode M.2.1 pc = .ok (.invokestatic ix, 3)) (hp : pc + 3 = pc') (k : ks_X l G M d pc' lv (.long (if y < x then x else y) :: st) S P) : ks_X l G M d pc lv (.long y :: .long x :: st) S P := by
  subst hp
  obtain ⟨v, S', ⟨hm, hV⟩, hP⟩ := k
  refine ⟨v, S', ⟨hm, fun p e R s m args below meth c H locs cells slots ls C hH hS hl h1 h2 => ?_⟩, hP⟩
  exact va_mmax_long C.1 C.2.1 (C.2.2.2.1.trans hl.1.symm) C.2.2.2.2.1 (C.2.2.2.2.2.1 _ hlk rfl) (C.2.2.2.2.2.1 _ hstc rfl) (C.2.2.2.2.2.1 _ hini rfl) (C.2.2.2.2.2.1 _ hcd rfl) (Nat.le_trans hd1 C.2.2.2.2.2.2.2.2.2.1) (by rw [ks_cat]; have := C.2.2.2.2.2.2.2.2.2.2; omega) (by omega) (by omega) hd (hV p e R s m args below meth c H locs cells slots ls C hH hS hl h1 h2)
theorem ks_minJ {ix : Nat} {x y : Int64} (hlk : Cond.methodLink M.1 ix Lib.MathLoose.min_long.x ∈ lw_tbl) (hstc : Cond.static Lib.MathLoose.min_long.x ∈ lw_tbl) (hini : Cond.initialized "java/lang/Math" ∈ lw_tbl) (hcd : Cond.code Lib.MathLoose.min_long.x Lib.MathLoose.min_long.code 4 (some .long) ∈ lw_tbl) (hd1 : 1 ≤ d) (hsm : (st.map fun v => v.category).sum ≤ 8) (hd : decode M.2.1 pc = .ok (.invokestatic ix, 3)) (hp : pc + 3 = pc') (k : ks_X l G M d pc' lv (.long (if y < x then y else x) :: st) S P) : ks_X l G M d pc lv (.long y :: .long x :: st) S P := by
  subst hp
  obtain ⟨v, S', ⟨hm, hV⟩, hP⟩ := k
  refine ⟨v, S', ⟨hm, fun p e R s m args below meth c H locs cells slots ls C hH hS hl h1 h2 => ?_⟩, hP⟩
  exact va_mmin_long C.1 C.2.1 (C.2.2.2.1.trans hl.1.symm) C.2.2.2.2.1 (C.2.2.2.2.2.1 _ hlk rfl) (C.2.2.2.2.2.1 _ hstc rfl) (C.2.2.2.2.2.1 _ hini rfl) (C.2.2.2.2.2.1 _ hcd rfl) (Nat.le_trans hd1 C.2.2.2.2.2.2.2.2.2.1) (by rw [ks_cat]; have := C.2.2.2.2.2.2.2.2.2.2; omega) (by omega) (by omega) hd (hV p e R s m args below meth c H locs cells slots ls C hH hS hl h1 h2)
end KsMath
