/-! THE REFERENCE: one transaction of a text -/
/-- P holds the places of transaction t of the bytes G in the row y -/
def ptQ (S : ks_S) (P y N : Nat) (G : Nat → Nat) (L t b k p m u e : Nat) : Prop := ∃ (g : Nat → Nat) (A : Nat → Nat → Nat) (c : Nat), (S.2.2 y = some (kB N g) ∧ kO g) ∧ (L ≤ N ∧ N < 2 ^ 16 ∧ P + 9 < ks_B ∧ t < 12) ∧ (∀ j, j < L → g j = G j) ∧ tx_ G b L = some (k, p, m, u, e) ∧ S.2.2 P = some (prO P y c) ∧ (∀ r, r < 6 → S.2.2 (P + 1 + r) = some (kN 12 (A r))) ∧ (A 0 t = b ∧ A 1 t = e) ∧ (A 2 t = k ∧ A 3 t = m) ∧ A 4 t = p ∧ A 5 t = u
theorem ptQ.up {S S1 : ks_S} {P y N L t b k p m u e : Nat} {G : Nat → Nat} {X : List Nat} (h : ptQ S P y N G L t b k p m u e) (hu : ks_up S S1 X) (hX : ∀ x ∈ X, x ≠ y ∧ (x < P ∨ P + 6 < x)) : ptQ S1 P y N G L t b k p m u e := by
  obtain ⟨g, A, c, ⟨h1, h2⟩, h3, h4, h5, h6, h7, h8⟩ := h
  exact ⟨g, A, c, ⟨hu.at h1 (fun hm => (hX _ hm).1 rfl), h2⟩, h3, h4, h5, hu.at h6 (fun hm => by have := hX _ hm; omega), fun r hr => hu.at (h7 r hr) (fun hm => by have := hX _ hm; omega), h8⟩
theorem pdK.pt {S : ks_S} {P y N t k p m u e : Nat} {M : List Nat} (h : pdK S P y N M) (ht : t < mg M 80) (etx : txP M t = (k, p, m, u, e)) : ptQ S P y N (mg M) M.length t (bsP M t) k p m u e := by
  obtain ⟨g, A, gi, ⟨ey, kg⟩, ⟨hMN, hN16, hPB, hP6, hy6⟩, hg, hbl, X, hA⟩ := h
  have b9 := blk_b hbl
  obtain ⟨b1, b2, b3, b4, b5, b6⟩ := bk_tx hbl ht
  rw [etx] at b3 b4
  obtain ⟨a1, a2, a3, -⟩ := hA t ht
  rw [etx] at a2 a3
  exact ⟨g, A, _, ⟨ey, kg⟩, ⟨hMN, hN16, hPB, by omega⟩, hg, b3, X.1, X.2.1, ⟨a1.1, a1.2.trans b4.symm⟩, a2, a3⟩
set_option maxRecDepth 100000 in
set_option maxHeartbeats 800000 in
theorem c_pt_num {l : Launch} {G : ks_G} {d : Nat} {S : ks_S} {P y N L t b k p m u e i n : Nat} {G9 : Nat → Nat} (hK : ptQ S P y N G9 L t b k p m u e) (hi : i + n ≤ L) (hn : n ≤ 8) : ks_P l G yX16_number mX16_number d [.ref 290, .ref y, .int (nI i), .int (nI n)] S (fun z S' => z = some (.long (lN (ks_num G9 i n))) ∧ S' = S) := by
  obtain ⟨g, A, c9, ⟨ey, kg⟩, ⟨hLN, hN16, hPB, ht12⟩, hg, htx, hP, hA, ⟨a0, a1⟩, ⟨a2, a3⟩, a4, a5⟩ := id hK
  rw [← ks_num_congr (g := g) n i i (fun j hj => hg _ (by omega))]
  exact c_md_number ey kg (by omega) hn (by omega)
set_option maxRecDepth 100000 in
set_option maxHeartbeats 800000 in
theorem c_pt_input {l : Launch} {G : ks_G} {d : Nat} {S : ks_S} {V : Nat → Value} {P y N L t b k p m u e : Nat} {G9 : Nat → Nat} (hO : S.2.2 290 = some (rfE V)) (hK : ptQ S P y N G9 L t b k p m u e) {i : Nat} (hi : i < k) : ks_P l G yX16_input mX16_input (d + 2) [.ref 290, .ref P, .int (nI t), .int (nI i)] S (fun z S' => z = some (.int (nI (iA G9 L p i))) ∧ ∃ V', skK S S' V V') := by
  obtain ⟨g, A, c9, ⟨ey, kg⟩, ⟨hLN, hN16, hPB, ht12⟩, hg, htx, hP, hA, ⟨a0, a1⟩, ⟨a2, a3⟩, a4, a5⟩ := id hK
  obtain ⟨i1, i2, i3, i4, i5, i6⟩ := tx_in htx i hi
  have bd := tx_bd htx
  have P5 : S.2.2 (P + 5) = some (kN 12 (A 4)) := hA 4 (by decide)
  exact c_md_input hO hP P5 (by omega) ht12 a4 ey kg hLN hN16 (by omega) ((ip_congr hg i).trans i1)
set_option maxRecDepth 100000 in
set_option maxHeartbeats 800000 in
theorem c_pt_output {l : Launch} {G : ks_G} {d : Nat} {S : ks_S} {V : Nat → Value} {P y N L t b k p m u e : Nat} {G9 : Nat → Nat} (hO : S.2.2 290 = some (rfE V)) (hK : ptQ S P y N G9 L t b k p m u e) {i : Nat} (hi : i < m) : ks_P l G yX16_output mX16_output (d + 2) [.ref 290, .ref P, .int (nI t), .int (nI i)] S (fun z S' => z = some (.int (nI (oA G9 L u i))) ∧ ∃ V', skK S S' V V') := by
  obtain ⟨g, A, c9, ⟨ey, kg⟩, ⟨hLN, hN16, hPB, ht12⟩, hg, htx, hP, hA, ⟨a0, a1⟩, ⟨a2, a3⟩, a4, a5⟩ := id hK
  obtain ⟨i1, i2, i3, i4, i5⟩ := tx_out htx i hi
  have bd := tx_bd htx
  have P5 : S.2.2 (P + 6) = some (kN 12 (A 5)) := hA 5 (by decide)
  exact c_md_output hO hP P5 (by omega) ht12 a5 ey kg hLN hN16 (by omega) ((ot_congr hg i).trans i1)
set_option maxRecDepth 100000 in
set_option maxHeartbeats 800000 in
theorem c_pt_scrI {l : Launch} {G : ks_G} {d : Nat} {S : ks_S} {V : Nat → Value} {P y N L t b k p m u e : Nat} {G9 : Nat → Nat} (hO : S.2.2 290 = some (rfE V)) (hK : ptQ S P y N G9 L t b k p m u e) {i : Nat} (hi : i < k) : ks_P l G yX16_script mX16_script (d + 1) [.ref 290, .ref y, .int (nI (iA G9 L p i + 36))] S (fun z S' => z = some (.int (nI (iS G9 L p i + iZ G9 L p i))) ∧ ∃ V', skK S S' V V' ∧ V' 40 = .int (nI (iS G9 L p i)) ∧ V' 41 = .int (nI (iZ G9 L p i))) := by
  obtain ⟨g, A, c9, ⟨ey, kg⟩, ⟨hLN, hN16, hPB, ht12⟩, hg, htx, hP, hA, ⟨a0, a1⟩, ⟨a2, a3⟩, a4, a5⟩ := id hK
  obtain ⟨i1, i2, i3, i4, i5, i6⟩ := tx_in htx i hi
  exact c_md_script hO ey kg hLN hN16 ((rc_congr hg).trans i2)
set_option maxRecDepth 100000 in
set_option maxHeartbeats 800000 in
theorem c_pt_scrO {l : Launch} {G : ks_G} {d : Nat} {S : ks_S} {V : Nat → Value} {P y N L t b k p m u e : Nat} {G9 : Nat → Nat} (hO : S.2.2 290 = some (rfE V)) (hK : ptQ S P y N G9 L t b k p m u e) {i : Nat} (hi : i < m) : ks_P l G yX16_script mX16_script (d + 1) [.ref 290, .ref y, .int (nI (oA G9 L u i + 8))] S (fun z S' => z = some (.int (nI (oS G9 L u i + oZ G9 L u i))) ∧ ∃ V', skK S S' V V' ∧ V' 40 = .int (nI (oS G9 L u i)) ∧ V' 41 = .int (nI (oZ G9 L u i))) := by
  obtain ⟨g, A, c9, ⟨ey, kg⟩, ⟨hLN, hN16, hPB, ht12⟩, hg, htx, hP, hA, ⟨a0, a1⟩, ⟨a2, a3⟩, a4, a5⟩ := id hK
  obtain ⟨i1, i2, i3, i4, i5⟩ := tx_out htx i hi
  exact c_md_script hO ey kg hLN hN16 ((rc_congr hg).trans i2)
/-- pieces one behind another -/
def catF (f : Nat → List Nat) : Nat → Nat → List Nat
  | _, 0 => []
  | i, n + 1 => f i ++ catF f (i + 1) n
theorem catL_F (f : Nat → List Nat) : ∀ (n i : Nat), catL f ((List.range n).map (i + ·)) = catF f i n
  | 0, _ => rfl
  | n + 1, i => by
    rw [List.range_succ_eq_map]
    show f (i + 0) ++ catL f (((List.range n).map Nat.succ).map (i + ·)) = _
    rw [List.map_map, show ((fun x => i + x) ∘ Nat.succ) = (fun x => (i + 1) + x) from funext fun x => by show i + (x + 1) = i + 1 + x; omega, catL_F f n (i + 1)]
    rfl
theorem catF_c {f g : Nat → List Nat} : ∀ {n i : Nat}, (∀ j, i ≤ j → j < i + n → f j = g j) → catF f i n = catF g i n
  | 0, _, _ => rfl
  | n + 1, i, h => by
    unfold catF
    rw [h i (by omega) (by omega), catF_c (n := n) (fun j h1 h2 => h j (by omega) (by omega))]
theorem catF_one {f : Nat → List Nat} {a : Nat} : ∀ {n i : Nat}, i ≤ a → a < i + n → catF (fun j => if j = a then f j else []) i n = f a
  | 0, i, h1, h2 => by omega
  | n + 1, i, h1, h2 => by
    unfold catF
    by_cases e : i = a
    · subst e
      rw [if_pos rfl]
      have : catF (fun j => if j = i then f j else []) (i + 1) n = catF (fun _ => []) (i + 1) n := catF_c (fun j h3 h4 => if_neg (by omega))
      rw [this]
      have : ∀ n i, catF (fun _ => []) i n = [] := by
        intro n
        induction n with
        | zero => intro i; rfl
        | succ n ih => intro i; show [] ++ catF _ (i + 1) n = []; rw [ih]; rfl
      rw [this, List.append_nil]
    · rw [if_neg e, List.nil_append]
      exact catF_one (by omega) (by omega)
theorem msg_one {g : Nat → Nat} (h : ∀ j, j < 32 → g j = if j = 0 then 1 else 0) : bytL g 0 32 = 1 :: List.replicate 31 0 := by
  rw [bytL_congr (g := fun j => if j = 0 then 1 else 0) (i2 := 0) (fun j hj => by rw [Nat.zero_add]; exact h j hj)]
  decide
