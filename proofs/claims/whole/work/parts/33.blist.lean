/-! BUFFERS AS LISTS: some m, the bytes m; none, it went over -/
def bytL (f : Nat → Nat) (i n : Nat) : List Nat := (List.range n).map (fun k => f (i + k))
def numL (v : Int64) (n : Nat) : List Nat := (List.range n).map (fun k => v.toBitVec.toNat / 256 ^ k % 256)
def cntL (n : Nat) : List Nat := if n < 253 then [n] else [253, n % 256, n / 256 % 256]
def bfA (o : Option (List Nat)) (N : Nat) (x : List Nat) : Option (List Nat) := match o with
  | none => none
  | some m => if m.length + x.length ≤ N then some (m ++ x) else none
def bfO (o : Option (List Nat)) (len : Nat) (g : Nat → Nat) : Prop := match o with
  | none => True
  | some m => m.length = len ∧ ∀ j, j < len → g j = m.getD j 0
def bfV (o : Option (List Nat)) : Int32 := match o with
  | none => 1
  | some _ => 0
def bfS (S : ks_S) (b a N : Nat) (o : Option (List Nat)) : Prop := ∃ len g, kO g ∧ len ≤ N ∧ S.2.2 a = some (kB N g) ∧ S.2.2 b = some (.inr (4, [.ref a, .int (nI len), .int (bfV o)])) ∧ bfO o len g
theorem bytL_len (f : Nat → Nat) (i n : Nat) : (bytL f i n).length = n := by simp [bytL]
theorem numL_len (v : Int64) (n : Nat) : (numL v n).length = n := by simp [numL]
theorem cntL_len (n : Nat) : (cntL n).length = if n < 253 then 1 else 3 := by unfold cntL; split <;> rfl
theorem bytL_at (f : Nat → Nat) (i n : Nat) {k : Nat} (h : k < n) : (bytL f i n).getD k 0 = f (i + k) := by simp [bytL, List.getD, h]
theorem numL_at (v : Int64) (n : Nat) {k : Nat} (h : k < n) : (numL v n).getD k 0 = v.toBitVec.toNat / 256 ^ k % 256 := by simp [numL, List.getD, h]
theorem getD_app {m x : List Nat} {j : Nat} : (m ++ x).getD j 0 = if j < m.length then m.getD j 0 else x.getD (j - m.length) 0 := by
  by_cases h : j < m.length
  · rw [if_pos h]; simp [List.getD, List.getElem?_append_left h]
  · rw [if_neg h]; simp [List.getD, List.getElem?_append_right (Nat.le_of_not_lt h)]
theorem bfS.up {S S1 : ks_S} {b a N : Nat} {o : Option (List Nat)} {L : List Nat} (h : bfS S b a N o) (hu : ks_up S S1 L) (h1 : a ∉ L) (h2 : b ∉ L) : bfS S1 b a N o := by
  obtain ⟨len, g, c1, c2, c3, c4, c5⟩ := h
  exact ⟨len, g, c1, c2, hu.at c3 h1, hu.at c4 h2, c5⟩
theorem bfS.nin {S : ks_S} {b a N : Nat} {o : Option (List Nat)} (h : bfS S b a N o) : b ≠ a := by
  obtain ⟨len, g, c1, c2, c3, c4, c5⟩ := h
  exact Ne.symm (ks_neO c3 c4)
/-- the step of all that is added -/
theorem bf_add {S S' : ks_S} {b a N len n : Nat} {g g' : Nat → Nat} {o : Option (List Nat)} {x : List Nat} (hx : x.length = n) (hb : S.2.2 b = some (.inr (4, [.ref a, .int (nI len), .int (bfV o)]))) (ha : S.2.2 a = some (kB N g)) (hl : len ≤ N) (hg : kO g) (ho : bfO o len g) (hg' : kO g') (h1 : len + n ≤ N → ∀ j, j < len → g' j = g j) (h2 : len + n ≤ N → ∀ k, k < n → g' (len + k) = x.getD k 0)
    (h : S' = if len + n ≤ N then ks_set (ks_set S a (kB N g')) b (.inr (4, [.ref a, .int (nI (len + n)), .int (bfV o)])) else ks_set S b (.inr (4, [.ref a, .int (nI len), .int 1]))) : ks_up S S' [a, b] ∧ bfS S' b a N (bfA o N x) := by
  have n_a_b : a ≠ b := ks_neO ha hb
  by_cases e : len + n ≤ N
  · rw [if_pos e] at h
    subst h
    refine ⟨(ks_up_set _ _ (by simp)).trans (ks_up_set _ _ (by simp)), len + n, g', hg', e, (ks_set_ne _ _ n_a_b).trans (ks_set_same _ _ _), ?_, ?_⟩
    · rw [ks_set_same]
      cases o with
      | none => rfl
      | some m =>
        unfold bfA bfV
        have hm : m.length + x.length ≤ N := by rw [ho.1, hx]; exact e
        simp only [if_pos hm]
    · cases o with
      | none => trivial
      | some m =>
        have hm : m.length + x.length ≤ N := by rw [ho.1, hx]; exact e
        unfold bfA
        simp only [if_pos hm]
        refine ⟨by rw [List.length_append, ho.1, hx], fun j hj => ?_⟩
        rw [getD_app, ho.1]
        by_cases e2 : j < len
        · rw [if_pos e2, h1 e j e2, ho.2 j e2]
        · rw [if_neg e2, ← h2 e (j - len) (by omega)]
          congr 1
          omega
  · rw [if_neg e] at h
    subst h
    refine ⟨ks_up_set _ _ (by simp), len, g, hg, hl, (ks_set_ne _ _ n_a_b).trans ha, ?_, ?_⟩
    · rw [ks_set_same]
      cases o with
      | none => rfl
      | some m =>
        have hm : ¬ m.length + x.length ≤ N := by rw [ho.1, hx]; exact e
        unfold bfA bfV
        simp only [if_neg hm]
    · cases o with
      | none => trivial
      | some m =>
        have hm : ¬ m.length + x.length ≤ N := by rw [ho.1, hx]; exact e
        unfold bfA
        simp only [if_neg hm]
        trivial
theorem bf_clear {l : Launch} {G : ks_G} {d : Nat} {S : ks_S} {b a N : Nat} {o : Option (List Nat)} (h : bfS S b a N o) : ks_P l G yX1_clear mX1_clear d [.ref b] S (fun r S' => r = none ∧ ks_up S S' [a, b] ∧ bfS S' b a N (some [])) := by
  obtain ⟨len, g, c1, c2, c3, c4, c5⟩ := h
  refine (c_Buffer_clear c4).mono ?_
  rintro r S' ⟨rfl, rfl⟩
  exact ⟨rfl, ks_up_set _ _ (by simp), 0, g, c1, Nat.zero_le _, (ks_set_ne _ _ (ks_neO c3 c4)).trans c3, ks_set_same _ _ _, rfl, fun j hj => absurd hj (Nat.not_lt_zero j)⟩
theorem bf_number {l : Launch} {G : ks_G} {d : Nat} {S : ks_S} {b a N sz : Nat} {v : Int64} {o : Option (List Nat)} (h : bfS S b a N o) (hN : N < 2 ^ 31) (hs : sz ≤ 8) : ks_P l G yX1_addNumber mX1_addNumber d [.ref b, .long v, .int (nI sz)] S (fun r S' => r = none ∧ ks_up S S' [a, b] ∧ bfS S' b a N (bfA o N (numL v sz))) := by
  obtain ⟨len, g, c1, c2, c3, c4, c5⟩ := h
  refine (c_Buffer_addNumber c4 c3 c2 hN hs).mono ?_
  rintro r S' ⟨rfl, e⟩
  refine ⟨rfl, bf_add (numL_len v sz) c4 c3 c2 c1 c5 (kO_lay c1 _ _ _) (fun _ j hj => if_neg (by omega)) (fun _ k hk => ?_) e⟩
  rw [numL_at v sz hk]
  show (if len ≤ len + k ∧ len + k < len + sz then _ else _) = _
  rw [if_pos (by omega), Nat.add_sub_cancel_left]
theorem bf_bytes {l : Launch} {G : ks_G} {d : Nat} {S : ks_S} {b a N a0 N0 i n : Nat} {f : Nat → Nat} {o : Option (List Nat)} (h : bfS S b a N o) (hN : N < 2 ^ 31) (h0 : S.2.2 a0 = some (kB N0 f)) (hf : kO f) (hi : i + n ≤ N0) (hN0 : N0 < 2 ^ 31) : ks_P l G yX1_addBytes mX1_addBytes (d + 1) [.ref b, .ref a0, .int (nI i), .int (nI n)] S (fun r S' => r = none ∧ ks_up S S' [a, b] ∧ bfS S' b a N (bfA o N (bytL f i n))) := by
  obtain ⟨len, g, c1, c2, c3, c4, c5⟩ := h
  refine (c_Buffer_addBytes h0 hi hN0 c4 c3 c2 hN).mono ?_
  rintro r S' ⟨rfl, e⟩
  refine ⟨rfl, bf_add (bytL_len f i n) c4 c3 c2 c1 c5 (kO_cpy hf c1 _ _ _) (fun _ j hj => pk_cpy_out (by omega)) (fun _ k hk => ?_) e⟩
  rw [bytL_at f i n hk, pk_cpy_in (by omega) (by omega), Nat.add_sub_cancel_left]
theorem bf_count {l : Launch} {G : ks_G} {d : Nat} {S : ks_S} {b a N n : Nat} {o : Option (List Nat)} (h : bfS S b a N o) (hN : N < 2 ^ 31) (hn : n < 65536) : ks_P l G yX1_addCount mX1_addCount d [.ref b, .int (nI n)] S (fun r S' => r = none ∧ ks_up S S' [a, b] ∧ bfS S' b a N (bfA o N (cntL n))) := by
  obtain ⟨len, g, c1, c2, c3, c4, c5⟩ := h
  refine (c_Buffer_addCount hn c4 c3 c2 hN).mono ?_
  rintro r S' ⟨rfl, e⟩
  refine ⟨rfl, bf_add (cntL_len n) c4 c3 c2 c1 c5 (kO_cnt c1 _ _) (fun _ j hj => ?_) (fun _ k hk => ?_) e⟩
  · unfold ks_cnt
    by_cases e2 : n < 253
    · rw [if_pos e2, va_up_ne _ _ (by omega)]
    · rw [if_neg e2, va_up_ne _ _ (by omega), va_up_ne _ _ (by omega), va_up_ne _ _ (by omega)]
  · unfold ks_cnt cntL
    by_cases e2 : n < 253
    · rw [if_pos e2] at hk
      obtain rfl : k = 0 := by omega
      rw [if_pos e2, if_pos e2, Nat.add_zero, va_up_self, Nat.mod_eq_of_lt (by omega)]
      rfl
    · rw [if_neg e2] at hk
      rw [if_neg e2, if_neg e2]
      rcases (show k = 0 ∨ k = 1 ∨ k = 2 by omega) with rfl | rfl | rfl
      · rw [va_up_ne _ _ (by omega), va_up_ne _ _ (by omega), Nat.add_zero, va_up_self]; rfl
      · rw [va_up_ne _ _ (by omega), va_up_self]; rfl
      · rw [va_up_self]; rfl
theorem bf_high {l : Launch} {G : ks_G} {d : Nat} {S : ks_S} {b a N : Nat} {x : Int32} {o : Option (List Nat)} (h : bfS S b a N o) (hN : N < 2 ^ 31) : ks_P l G yX1_addHighFirst mX1_addHighFirst (d + 1) [.ref b, .int x] S (fun r S' => r = none ∧ ks_up S S' [a, b] ∧ bfS S' b a N (bfA o N (numL (ks_rev x) 4))) := by
  obtain ⟨len, g, c1, c2, c3, c4, c5⟩ := h
  refine (c_Buffer_addHighFirst c4 c3 c2 hN).mono ?_
  rintro r S' ⟨rfl, e⟩
  refine ⟨rfl, bf_add (numL_len _ 4) c4 c3 c2 c1 c5 (kO_lay c1 _ _ _) (fun _ j hj => if_neg (by omega)) (fun _ k hk => ?_) e⟩
  rw [numL_at _ 4 hk]
  show (if len ≤ len + k ∧ len + k < len + 4 then _ else _) = _
  rw [if_pos (by omega), Nat.add_sub_cancel_left]
