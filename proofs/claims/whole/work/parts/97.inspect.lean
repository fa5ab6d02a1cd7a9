/-! CHAIN: inspect -/
/-- a block's place lies apart from the kept ones -/
def slA (n : Nat) (B : Nat → Bk) (b : Nat) : Prop := ∀ i, i < n → (bkN (B i) + 5 ≤ b ∨ b + 5 ≤ bkN (B i)) ∧ ∀ c, bkC (B i) = some c → c.1 < b ∨ b + 5 ≤ c.1
/-- the free place -/
def chF (S : ks_S) (n : Nat) (B : Nat → Bk) (sl : Option Nat) : Prop := (∃ bf : Nat → Option Nat, S.2.2 42 = some (.inl (5, 61, .inr (.inr (.inr (.inr bf))))) ∧ bf n = sl ∧ ∀ i, n < i → bf i = none) ∧ ∀ b, sl = some b → b + 5 ≤ S.1 ∧ slA n B b ∧ ∃ len cnt par hei g1 f2 g3 g4, bkX S b len cnt par hei (lN 0) false .null g1 f2 g3 g4
theorem chX.ex2 {S S1 : ks_S} {n best : Nat} {cc : Int32} {tk : Int64} {B : Nat → Bk} {L : List Nat} (h : chX S n best cc tk B) (hT : chT S n B) (hu : ks_ex S S1 L) {b : Nat} (hb : slA n B b) (hL : ∀ x ∈ L, (x < 56 ∧ x ≠ 41 ∧ x ≠ 42) ∨ (56 ≤ b ∧ b ≤ x ∧ x < b + 5)) : chX S1 n best cc tk B := by
  obtain ⟨h1, ⟨bf, h2, h3⟩, h4, h5⟩ := h
  have n41 : 41 ∉ L := fun q => by have := hL _ q; omega
  have n42 : 42 ∉ L := fun q => by have := hL _ q; omega
  refine ⟨hu.at h1 n41 (Or.inl (by have := hT.1; omega)), ⟨bf, hu.at h2 n42 (Or.inl (by have := hT.1; omega)), h3⟩, fun i hi => (h4 i hi).ex hu (fun x hx => ?_) (hT.2.2 i hi).1 (fun c hc => ⟨(hT.2.2 i hi).2 c hc, fun q => ?_⟩), h5⟩
  · have := hL x hx
    obtain ⟨g1, f2, g3, g4, q, -⟩ := h4 i hi
    have := q.2.2.2.2.2.2.2.2.2
    have := (hb i hi).1
    omega
  · obtain ⟨g1, f2, g3, g4, -, -, -, -, -, -, -, q8⟩ := h4 i hi
    have := (q8 c hc).2.2.1
    have := hL _ q
    have := (hb i hi).2 c hc
    omega
theorem chT.ex {S S1 : ks_S} {n : Nat} {B : Nat → Bk} {L : List Nat} (h : chT S n B) (hu : ks_ex S S1 L) (hB : S1.1 < ks_B) : chT S1 n B := by
  have := hu.1
  exact ⟨by have := h.1; omega, hB, fun i hi => ⟨by have := (h.2.2 i hi).1; omega, fun c hc => by have := (h.2.2 i hi).2 c hc; omega⟩⟩
theorem bkX.ex {S S1 : ks_S} {b : Nat} {len cnt par hei : Int32} {wk : Int64} {bad : Bool} {cr : Value} {g1 f2 g3 g4 : Nat → Nat} {L : List Nat} (h : bkX S b len cnt par hei wk bad cr g1 f2 g3 g4) (hu : ks_ex S S1 L) (hL : ∀ x ∈ L, x < b ∨ b + 4 < x) (hT : b + 5 ≤ S.1) : bkX S1 b len cnt par hei wk bad cr g1 f2 g3 g4 := by
  have hn : ∀ j, j ≤ 4 → b + j ∉ L := fun j hj hm => by have := hL _ hm; omega
  obtain ⟨a1, a2, a3, a4, a5, a6⟩ := h
  exact ⟨hu.at a1 (hn 0 (by decide)) (by omega), hu.at a2 (hn 1 (by decide)) (by omega), hu.at a3 (hn 2 (by decide)) (by omega), hu.at a4 (hn 3 (by decide)) (by omega), hu.at a5 (hn 4 (by decide)) (by omega), a6⟩
theorem hsO_ex {S S1 : ks_S} {L : List Nat} (h : hsO S) (hu : ks_ex S S1 L) (hn : ∀ x ∈ L, x < 7 ∨ 13 < x) (hT : 64 ≤ S.1) : hsO S1 := by
  have hh : ∀ j, 7 ≤ j → j ≤ 13 → j ∉ L := fun j h1 h2 hm => by have := hn j hm; omega
  obtain ⟨a, ⟨F, b⟩, ⟨f, c⟩, ⟨f2, e⟩, ⟨g1, k1, x1⟩, ⟨g2, k2, x2⟩, ⟨g3, k3, x3⟩⟩ := h
  exact ⟨hu.at a (hh 7 (by decide) (by decide)) (by omega), ⟨F, hu.at b (hh 8 (by decide) (by decide)) (by omega)⟩, ⟨f, hu.at c (hh 9 (by decide) (by decide)) (by omega)⟩, ⟨f2, hu.at e (hh 10 (by decide) (by decide)) (by omega)⟩, ⟨g1, k1, hu.at x1 (hh 11 (by decide) (by decide)) (by omega)⟩, ⟨g2, k2, hu.at x2 (hh 12 (by decide) (by decide)) (by omega)⟩, ⟨g3, k3, hu.at x3 (hh 13 (by decide) (by decide)) (by omega)⟩⟩
theorem tvR_ex {S S1 : ks_S} {L : List Nat} (h : tvR S) (hu : ks_ex S S1 L) (hn : ∀ x ∈ L, x < 20 ∨ 26 < x) (hT : 64 ≤ S.1) : tvR S1 := by
  obtain ⟨vy, i1, i2, i9, x, fA, fS, fZ, hA, hS, hZ, c0, c1, c2, c3, c4, c5, c6⟩ := h
  have n : ∀ y, 20 ≤ y → y ≤ 26 → y ∉ L := fun y a b hy => by have := hn y hy; omega
  exact ⟨vy, i1, i2, i9, x, fA, fS, fZ, hA, hS, hZ, hu.at c0 (n _ (by decide) (by decide)) (by omega), hu.at c1 (n _ (by decide) (by decide)) (by omega), hu.at c2 (n _ (by decide) (by decide)) (by omega), hu.at c3 (n _ (by decide) (by decide)) (by omega), hu.at c4 (n _ (by decide) (by decide)) (by omega), hu.at c5 (n _ (by decide) (by decide)) (by omega), hu.at c6 (n _ (by decide) (by decide)) (by omega)⟩
theorem rhF_le {B : Nat → Bk} {M : List Nat} {q : Nat} : rhF B M q ≤ 5 := by
  unfold rhF
  split
  · decide
  · split
    · split <;> decide
    · decide
section KsAa
variable {l : Launch} {G : ks_G} {M : ks_M} {d pc pc' : Nat} {lv : List (Nat × Value)} {st : List Value} {S : ks_S} {P : Option Value → ks_S → Prop} {a n i : Nat} {ix : Int32}
theorem ks_aaldO {t : Nat} {g : Nat → Option Nat} (ht : t = 4 ∨ t = 5 ∨ t = 6 ∨ t = 7) (hS : S.2.2 a = some (.inl (t, n, .inr (.inr (.inr (.inr g)))))) (hix : ix = nI i) (hi : i < n) (hn : n < 2 ^ 31) (hg : g i = none) (hd : decode M.2.1 pc = .ok (.aaload, 1)) (hp : pc + 1 = pc') (k : ks_X l G M d pc' lv (.null :: st) S P) : ks_X l G M d pc lv (.int ix :: .ref a :: st) S P := by
  subst hix
  exact ks_aald ht hS (vp_in_nI hi hn) hd hp (by rw [nI_clamp (by omega), hg]; exact k)
theorem ks_aastN {t b ci : Nat} {r : vw_C} {g : Nat → Option Nat} {fs : List Value} (ht : (ks_tys G)[t]? = some (G.2.1 t, .object r.1)) (ht1 : t ≠ 1) (hc : vwCl[ci]? = some r) (hS : S.2.2 a = some (.inl (t, n, .inr (.inr (.inr (.inr g)))))) (hSb : S.2.2 b = some (.inr (ci, fs))) (hix : ix = nI i) (hi : i < n) (hn : n < 2 ^ 31) (hd : decode M.2.1 pc = .ok (.aastore, 1)) (hp : pc + 1 = pc') (k : ks_X l G M d pc' lv st (ks_set S a (.inl (t, n, .inr (.inr (.inr (.inr (va_up g i (some b)))))))) P) : ks_X l G M d pc lv (.ref b :: .int ix :: .ref a :: st) S P := by
  subst hix
  exact ks_aast ht ht1 hc hS hSb (vp_in_nI hi hn) hd hp (by rw [nI_clamp (by omega)]; exact k)
end KsAa
def inK (B : Nat → Bk) (n : Nat) (M : List Nat) : Nat := plD (fun i => sm32 (hsB (bkM (B i))) 0 (hsB M) 0) n 0
def inQ (B : Nat → Bk) (n : Nat) (M : List Nat) : Nat := plD (fun i => sm32 (hsB (bkM (B i))) 0 (fun j => mg M (4 + j)) 0) n 0
/-- what inspecting answers -/
def inF (B : Nat → Bk) (n : Nat) (M : List Nat) : Int32 := if blk_ (mg M) M.length = false then nI 1 else if inK B n M ≠ 0 then -1 else if ¬ (tg_num (btB M) ≠ 0 ∧ dg 256 (hsB M) 32 ≤ tg_num (btB M)) then nI 2 else if inQ B n M = 0 then -2 else if rhF B M (inQ B n M - 1) ≠ 0 then nI (rhF B M (inQ B n M - 1)) else nI (rtF M (bkH (B (inQ B n M - 1)) + 1))
abbrev LIn : List Nat := [9, 8, 10, 11, 12, 13, 49, 20, 21, 22, 23, 24, 25, 26, 45, 48]
def LI (b : Nat) : List Nat := LIn ++ [42, b, b + 1, b + 2, b + 3, b + 4]
theorem LI_mem {b x : Nat} (h : x ∈ LI b) : x ∈ LIn ∨ x = 42 ∨ (b ≤ x ∧ x < b + 5) := by
  unfold LI at h
  rcases List.mem_append.mp h with h | h
  · exact Or.inl h
  · simp only [List.mem_cons, List.not_mem_nil, or_false] at h
    omega
theorem LI_b {b x : Nat} (h : b ≤ x ∧ x < b + 5) : x ∈ LI b := by
  unfold LI
  refine List.mem_append_right _ ?_
  simp only [List.mem_cons, List.not_mem_nil, or_false]
  omega
def inP (S : ks_S) (n best : Nat) (cc : Int32) (tk : Int64) (B : Nat → Bk) (sl : Option Nat) (M : List Nat) : Option Value → ks_S → Prop := fun z S' => z = some (.int (inF B n M)) ∧ ∃ b, ks_ex S S' (LI b) ∧ (S'.1 ≤ S.1 + 5 ∧ S'.2.1 ≤ S.2.1 + 2040) ∧ chX S' n best cc tk B ∧ chF S' n B (some b) ∧ (sl = some b ∨ (sl = none ∧ b = S.1)) ∧ hsO S' ∧ tvR S' ∧ (∃ N, tg_ok S' N) ∧ (∃ f, S'.2.2 48 = some (kL 11 f)) ∧ (∃ gr, kO gr ∧ S'.2.2 49 = some (kB 32 gr)) ∧ (inF B n M = nI 0 → 0 < inQ B n M ∧ inQ B n M ≤ n ∧ bkK S' (b, M, inQ B n M, bkH (B (inQ B n M - 1)) + 1, 0, false, none))
theorem nI_05 : ∀ k, k < 6 → k ≠ 0 → nI k ≠ nI 0 := by decide
theorem kO_hs {M : List Nat} {g4 : Nat → Nat} (h4 : kO g4) (h : ∀ j, j < 32 → g4 j = hsB M j) : dg 256 g4 32 = dg 256 (hsB M) 32 := dg_congr (fun j hj => h j hj)
set_option maxRecDepth 100000 in
set_option maxHeartbeats 800000 in
theorem c_ch_inspect {l : Launch} {G : ks_G} {d : Nat} {S : ks_S} {n best : Nat} {cc : Int32} {tk : Int64} {B : Nat → Bk} (hX : chX S n best cc tk B) {sl : Option Nat} {M : List Nat} {tb ta N0 : Nat} {f48 gr : Nat → Nat} (hF : chF S n B sl) (hT : chT S n B) (hroom : S.1 + 10 < ks_B) (hW : chW n B) (hhei : ∀ i, i < n → bkH (B i) < 700) (hbf : bfS S tb ta 1600 (some M)) (htb : tb < 7 ∧ ta < 7) (hh : hsO S) (hR : tvR S) (hK : ks_stOK S) (hTg : tg_ok S N0) (h48 : S.2.2 48 = some (kL 11 f48)) (h49 : S.2.2 49 = some (kB 32 gr)) (hgr : kO gr) : ks_P l G yX2_inspect mX2_inspect (d + 8) [.ref 41, .ref tb] S (inP S n best cc tk B sl M) := by
  have hn60 := hX.2.2.2
  have hM16 : M.length ≤ 1600 := by
    obtain ⟨len, g, -, c2, -, -, c5⟩ := id hbf
    have c6 : M.length = len := c5.1
    omega
  have hh30 : ∀ i, i < n → bkH (B i) < 2 ^ 30 := fun i hi => by have := hhei i hi; omega
  have k28 : ∀ (S1 : ks_S) (b : Nat) (bf : Nat → Option Nat) (len cnt par hei : Int32) (g1 f2 g3 g4 : Nat → Nat), ks_ex S S1 [42] → (S1.1 ≤ S.1 + 5 ∧ S1.2.1 ≤ S.2.1 + 2040) → chX S1 n best cc tk B → S1.2.2 42 = some (.inl (5, 61, .inr (.inr (.inr (.inr bf))))) → bf n = some b → (∀ i, n < i → bf i = none) → slA n B b → b + 5 ≤ S1.1 → (sl = some b ∨ (sl = none ∧ b = S.1)) → bkX S1 b len cnt par hei (lN 0) false .null g1 f2 g3 g4 → ks_X l G mX2_inspect (d + 8) 28 [(0, .ref 41), (1, .ref tb)] [] S1 (inP S n best cc tk B sl M) := by
    intro S1 b bf len cnt par hei g1 f2 g3 g4 ex1 hsz X1 h42 hbn hbl hsA hb5 hsl F1
    have b56 := F1.2.2.2.2.2.2.2.2.2
    have T1 : chT S1 n B := hT.ex ex1 (by omega)
    have O1 := X1.1
    have s64 := hT.1
    have n42 : ∀ x, x ≠ 42 → x ∉ ([42] : List Nat) := fun x h hx => h (List.mem_singleton.mp hx)
    have hh1 : hsO S1 := hsO_ex hh ex1 (by decide) s64
    have R1 : tvR S1 := tvR_ex hR ex1 (by decide) s64
    have K1 : ks_stOK S1 := ex1.st hK (by unfold ks_B; decide)
    have bf1 : bfS S1 tb ta 1600 (some M) := by
      obtain ⟨len, g, c1, c2, c3, c4, c5⟩ := hbf
      exact ⟨len, g, c1, c2, ex1.at c3 (n42 _ (by omega)) (by omega), ex1.at c4 (n42 _ (by omega)) (by omega), c5⟩
    have Tg1 : tg_ok S1 N0 := by
      obtain ⟨c1, ⟨ga, c2, c3, c4⟩, ⟨gb, c5, c6⟩, ⟨gc, c7, c8⟩⟩ := hTg
      exact ⟨ex1.at c1 (by decide) (by omega), ⟨ga, c2, ex1.at c3 (by decide) (by omega), c4⟩, ⟨gb, c5, ex1.at c6 (by decide) (by omega)⟩, ⟨gc, c7, ex1.at c8 (by decide) (by omega)⟩⟩
    have e48 := ex1.at h48 (by decide) (by omega)
    have e49 := ex1.at h49 (by decide) (by omega)
    refine ks_aload_n dX2_inspect_28 rfl rfl ?_
    refine ks_getf (T := TX2) (kf := 0) kx_729 rfl in_X2 cl_X2 (by decide) O1 rfl dX2_inspect_29 rfl ?_
    refine ks_aload_n dX2_inspect_32 rfl rfl ?_
    refine ks_getf (T := TX2) (kf := 3) kx_735 rfl in_X2 cl_X2 (by decide) O1 rfl dX2_inspect_33 rfl ?_
    refine ks_aaldN (i := n) (b := b) (by decide) h42 rfl (by omega) (by decide) hbn dX2_inspect_36 rfl ?_
    refine ks_astore_n dX2_inspect_37 (by decide) rfl ?_
    refine ks_sub [(2, _), (0, _), (1, _)] rfl ?_
    refine ks_aload_n dX2_inspect_38 rfl rfl ?_
    refine ks_aload_n dX2_inspect_39 rfl rfl ?_
    refine ks_aload_n dX2_inspect_40 rfl rfl ?_
    refine ks_getf (T := TX2) (kf := 7) kx_741 rfl in_X2 cl_X2 (by decide) O1 rfl dX2_inspect_41 rfl ?_
    refine ks_aload_n dX2_inspect_44 rfl rfl ?_
    refine ks_getf (T := TX2) (kf := 5) kx_739 rfl in_X2 cl_X2 (by decide) O1 rfl dX2_inspect_45 rfl ?_
    refine ks_callV (n := 3) (M' := mX0_read) (c_bk_read (d := d + 2) F1 bf1 htb hh1 R1 K1) F1.1 cl_X0 rfl kx_984 kx_985 kx_986 kx_29 kx_987 (by decide +kernel) rfl (by decide) (Nat.le_of_ble_eq_true rfl) rfl dX2_inspect_48 rfl (fun z1 T2 y1 => ?_)
    obtain ⟨cnt2, g1', f2', g4', rfl, w2, F2, hh2, R2, eg, hok⟩ := y1
    have lw2 : ∀ x ∈ [9, 8, 10, 11, 12, 20, 21, 22, 23, 24, 25, 26, b, b + 1, b + 2, b + 4], (x < 56 ∧ x ≠ 41 ∧ x ≠ 42 ∧ x ∈ LIn ∧ x ≠ 45 ∧ x ≠ 48 ∧ x ≠ 49) ∨ (56 ≤ b ∧ b ≤ x ∧ x < b + 5) := by
      intro x hx
      simp only [List.mem_cons, List.not_mem_nil, or_false] at hx ⊢
      omega
    have X2 := X1.ex2 T1 w2.ex hsA (fun x hx => by rcases lw2 x hx with h | h; exact Or.inl ⟨h.1, h.2.1, h.2.2.1⟩; exact Or.inr h)
    have exL : ∀ S9 : ks_S, ks_ex T2 S9 (LI b) → ks_ex S S9 (LI b) := fun S9 h9 => ((ex1.mono (fun x hx => by rw [List.mem_singleton] at hx; rw [hx]; unfold LI; exact List.mem_append_right _ List.mem_cons_self)).trans (w2.ex.mono (fun x hx => by rcases lw2 x hx with h | h; exact List.mem_append_left _ h.2.2.2.1; exact LI_b h.2))).trans h9
    have T2' : chT T2 n B := T1.up w2
    have n2 : ∀ x, x < 56 → x ≠ 41 ∧ x ≠ 42 → (x = 45 ∨ x = 48 ∨ x = 49 ∨ (26 < x ∧ x < 56)) → x ∉ [9, 8, 10, 11, 12, 20, 21, 22, 23, 24, 25, 26, b, b + 1, b + 2, b + 4] := by
      intro x h1 h2 h3 hx
      simp only [List.mem_cons, List.not_mem_nil, or_false] at hx
      omega
    have n42b : 42 ∉ [9, 8, 10, 11, 12, 20, 21, 22, 23, 24, 25, 26, b, b + 1, b + 2, b + 4] := by
      intro hx
      simp only [List.mem_cons, List.not_mem_nil, or_false] at hx
      omega
    have d42 := w2.at h42 n42b
    have K2 : ks_stOK T2 := w2.ex.st K1 (fun x hx => by have := lw2 x hx; have := F1.2.2.2.2.2.2.2.2.1; unfold ks_B at *; omega)
    have Tg2 : tg_ok T2 N0 := Tg1.up w2 (n2 _ (by decide) (by decide) (by decide)) (n2 _ (by decide) (by decide) (by decide)) (fun h => absurd h (n2 _ (by decide) (by decide) (by decide))) (fun h => absurd h (n2 _ (by decide) (by decide) (by decide)))
    have e48b := w2.at e48 (n2 _ (by decide) (by decide) (by decide))
    have e49b := w2.at e49 (n2 _ (by decide) (by decide) (by decide))
    have sz2 : T2.1 = S1.1 ∧ T2.2.1 = S1.2.1 := ⟨w2.1, w2.2.1⟩
    -- how a way ends
    have fin : ∀ (S9 : ks_S) (len cnt par hei : Int32) (g1 f2 g3 g4 : Nat → Nat), ks_up T2 S9 (LI b) → 42 ∉ ([] : List Nat) → S9.2.2 42 = T2.2.2 42 → chX S9 n best cc tk B → bkX S9 b len cnt par hei (lN 0) false .null g1 f2 g3 g4 → hsO S9 → tvR S9 → (∃ N, tg_ok S9 N) → (∃ f, S9.2.2 48 = some (kL 11 f)) → (∃ gr, kO gr ∧ S9.2.2 49 = some (kB 32 gr)) → (inF B n M = nI 0 → 0 < inQ B n M ∧ inQ B n M ≤ n ∧ bkK S9 (b, M, inQ B n M, bkH (B (inQ B n M - 1)) + 1, 0, false, none)) → inP S n best cc tk B sl M (some (.int (inF B n M))) S9 := fun S9 len cnt par hei g1 f2 g3 g4 u9 _ e9 X9 F9 h9 R9 G9 t9 r9 q9 => ⟨rfl, b, exL S9 u9.ex, ⟨by rw [u9.1, sz2.1]; exact hsz.1, by rw [u9.2.1, sz2.2]; exact hsz.2⟩, X9, ⟨⟨bf, e9.trans d42, hbn, hbl⟩, fun b2 hb2 => by cases hb2; exact ⟨by rw [u9.1, sz2.1]; exact hb5, hsA, len, cnt, par, hei, g1, f2, g3, g4, F9⟩⟩, hsl, h9, R9, G9, t9, r9, q9⟩
    have ne0 : ∀ k : Int32, k ≠ nI 0 → ∀ {p : Prop}, inF B n M = k → inF B n M = nI 0 → p := fun k hk p h1 h2 => absurd (h1.symm.trans h2) hk
    have up9 : ∀ S9 : ks_S, S9 = T2 → ks_up T2 S9 (LI b) := fun S9 h => by rw [h]; exact ks_up.rf _ _
    have fin0 : ∀ k : Int32, inF B n M = k → k ≠ nI 0 → inP S n best cc tk B sl M (some (.int k)) T2 := fun k hk h0 => by
      rw [← hk]
      exact fin T2 _ _ _ _ _ _ _ _ (ks_up.rf _ _) List.not_mem_nil rfl X2 F2 hh2 R2 ⟨_, Tg2⟩ ⟨_, e48b⟩ ⟨_, hgr, e49b⟩ (ne0 k h0 hk)
    have O2 := X2.1
    refine ks_if_neZ (tgt := 56) dX2_inspect_51 (by decide) rfl (fun h1 => ?_) (fun h1 => ?_)
    · obtain ⟨rfl, hst, eg4⟩ := hok h1
      have b9 := blk_b h1
      have k4 := F2.2.2.2.2.2.2.2.1
      have k1 := F2.2.2.2.2.2.1
      refine ks_aload_n dX2_inspect_56 rfl rfl ?_
      refine ks_aload_n dX2_inspect_57 rfl rfl ?_
      refine ks_getf (T := TX0) (kf := 3) kx_943 rfl in_X0 cl_X0 (by decide) F2.1 rfl dX2_inspect_58 rfl ?_
      refine ks_iconst (x := nI 0) dX2_inspect_61 (by decide) rfl ?_
      refine ks_callV (n := 2) (M' := mX2_numberOf) (c_ch_numberOf (d := d + 6) (at_ := 0) X2 F2.2.2.2.2.1 k4 (by decide) (by decide)) O2 cl_X2 rfl kx_1431 kx_1433 kxp_25 kx_26 kx_1434 (by decide +kernel) rfl (by decide) (Nat.le_of_ble_eq_true rfl) rfl dX2_inspect_62 rfl (fun z2 T3 y2 => ?_)
      obtain ⟨rfl, hT3⟩ := y2
      obtain rfl := hT3.symm
      have ek : plD (fun i => sm32 (hsB (bkM (B i))) 0 (fun j => g4' (0 + j)) 0) n 0 = inK B n M := by
        unfold inK
        refine plD_congr (fun i _ _ => sm32_c (fun j _ => rfl) (fun j hj => ?_))
        rw [Nat.zero_add, Nat.zero_add]
        exact eg4 j hj
      rw [ek]
      have kb9 : inK B n M ≤ 0 + n := plD_b
      have qb9 : inQ B n M ≤ 0 + n := plD_b
      have hinF : inF B n M = if inK B n M ≠ 0 then -1 else if ¬ (tg_num (btB M) ≠ 0 ∧ dg 256 (hsB M) 32 ≤ tg_num (btB M)) then nI 2 else if inQ B n M = 0 then -2 else if rhF B M (inQ B n M - 1) ≠ 0 then nI (rhF B M (inQ B n M - 1)) else nI (rtF M (bkH (B (inQ B n M - 1)) + 1)) := by
        unfold inF
        rw [if_neg (by rw [h1]; decide)]
      refine ks_if_ltD (tgt := 70) (by omega) dX2_inspect_65 (by decide) rfl (fun h2 => ?_) (fun h2 => ?_)
      · have h2 : inK B n M = 0 := h2
        rw [if_neg (fun h => h h2)] at hinF
        have bt32 : btB M < 2 ^ 32 := by unfold btB; rw [← bk_num (i := 72) (n := 4) eg (by omega)]; exact num4_lt k1 72
        have Tg44 := Tg2.1
        refine ks_aload_n dX2_inspect_70 rfl rfl ?_
        refine ks_getf (T := TX2) (kf := 2) kx_733 rfl in_X2 cl_X2 (by decide) O2 rfl dX2_inspect_71 rfl ?_
        refine ks_aload_n dX2_inspect_74 rfl rfl ?_
        refine ks_callV (n := 0) (M' := mX0_bits) (c_bk_bits (d := d + 6) F2) F2.1 cl_X0 rfl kx_1005 kx_1006 kx_1007 kx_29 kx_1008 (by decide +kernel) rfl (by decide) (Nat.le_of_ble_eq_true rfl) rfl dX2_inspect_75 rfl (fun z3 T3 y3 => ?_)
        obtain ⟨rfl, hT3⟩ := y3
        obtain rfl := hT3.symm
        rw [bk_num (i := 72) (n := 4) eg (by omega)]
        rw [show ks_num (mg M) 72 4 = btB M from rfl]
        refine ks_callV (n := 1) (M' := mX9_take) (c_take (d := d + 6) Tg2 bt32) Tg44 cl_X9 rfl kx_1010 kx_917 kx_918 kx_27 kx_919 (by decide +kernel) rfl (by decide) (Nat.le_of_ble_eq_true rfl) rfl dX2_inspect_78 rfl (fun z4 T4 y4 => ?_)
        obtain ⟨rfl, w4, Tg4⟩ := y4
        have l45 : ∀ x ∈ ([45] : List Nat), x < 56 := by decide
        have X4 := X2.up w4 (by decide)
        have F4 := F2.up w4 (fun x hx => by have := l45 x hx; omega)
        have hh4 := hh2.up w4 (by decide)
        have R4 := R2.up w4 (by decide)
        have e48c := w4.at e48b (by decide)
        have e49c := w4.at e49b (by decide)
        have K4 := w4.st K2 (by unfold ks_B; decide)
        have u4 : ks_up T2 T4 (LI b) := w4.mono (by intro x hx; rw [List.mem_singleton] at hx; rw [hx]; exact List.mem_append_left _ (by decide))
        have e42c : T4.2.2 42 = T2.2.2 42 := w4.2.2 42 (by decide)
        have fin4 : ∀ k : Int32, inF B n M = k → k ≠ nI 0 → inP S n best cc tk B sl M (some (.int k)) T4 := fun k hk h0 => by
          rw [← hk]
          exact fin T4 _ _ _ _ _ _ _ _ u4 List.not_mem_nil e42c X4 F4 hh4 R4 ⟨_, Tg4⟩ ⟨_, e48c⟩ ⟨_, hgr, e49c⟩ (ne0 k h0 hk)
        have d42c := e42c.trans d42
        have hbf2 : ∀ i, i < n → bf i = some (bkN (B i)) := by
          obtain ⟨-, ⟨bf9, q1, q2⟩, -, -⟩ := id X2
          rw [d42] at q1
          cases q1
          exact q2
        refine ks_if_eqZ (tgt := 98) dX2_inspect_81 (by decide) rfl (fun h3 => ?_) (fun h3 => ?_)
        · refine ks_iconst (x := nI 2) dX2_inspect_98 (by decide) rfl ?_
          refine ks_iret rfl dX2_inspect_99 ?_
          exact fin4 (nI 2) (by rw [hinF, if_pos (fun h => of_decide_eq_false h3 h.1)]) (by decide)
        · refine ks_aload_n dX2_inspect_84 rfl rfl ?_
          refine ks_getf (T := TX2) (kf := 2) kx_733 rfl in_X2 cl_X2 (by decide) X4.1 rfl dX2_inspect_85 rfl ?_
          refine ks_aload_n dX2_inspect_88 rfl rfl ?_
          refine ks_getf (T := TX0) (kf := 3) kx_943 rfl in_X0 cl_X0 (by decide) F4.1 rfl dX2_inspect_89 rfl ?_
          refine ks_callV (n := 1) (M' := mX9_isReachedBy) (c_reached (d := d + 7) Tg4 (tg_num_lt _) F4.2.2.2.2.1 k4 (by decide) (by decide)) Tg4.1 cl_X9 rfl kx_1435 kx_923 kx_924 kx_27 kx_925 (by decide +kernel) rfl (by decide) (Nat.le_of_ble_eq_true rfl) rfl dX2_inspect_92 rfl (fun z5 T5 y5 => ?_)
          obtain ⟨rfl, hT5⟩ := y5
          obtain rfl := hT5.symm
          rw [kO_hs k4 eg4]
          refine ks_if_neZ (tgt := 100) dX2_inspect_95 (by decide) rfl (fun h4 => ?_) (fun h4 => ?_)
          · rw [if_neg (fun h => h ⟨of_decide_eq_true h3, of_decide_eq_true h4⟩)] at hinF
            refine ks_aload_n dX2_inspect_100 rfl rfl ?_
            refine ks_aload_n dX2_inspect_101 rfl rfl ?_
            refine ks_aload_n dX2_inspect_102 rfl rfl ?_
            refine ks_getf (T := TX0) (kf := 0) kx_936 rfl in_X0 cl_X0 (by decide) F4.1 rfl dX2_inspect_103 rfl ?_
            refine ks_iconst (x := nI 4) dX2_inspect_106 (by decide) rfl ?_
            refine ks_callV (n := 2) (M' := mX2_numberOf) (c_ch_numberOf (d := d + 6) (at_ := 4) X4 F4.2.1 k1 (by decide) (by decide)) X4.1 cl_X2 rfl kx_1431 kx_1433 kxp_25 kx_26 kx_1434 (by decide +kernel) rfl (by decide) (Nat.le_of_ble_eq_true rfl) rfl dX2_inspect_107 rfl (fun z6 T6 y6 => ?_)
            obtain ⟨rfl, hT6⟩ := y6
            obtain rfl := hT6.symm
            have eq9 : plD (fun i => sm32 (hsB (bkM (B i))) 0 (fun j => g1' (4 + j)) 0) n 0 = inQ B n M := by
              unfold inQ
              refine plD_congr (fun i _ _ => sm32_c (fun j _ => rfl) (fun j hj => ?_))
              rw [Nat.zero_add]
              exact eg _ (by omega)
            rw [eq9]
            obtain ⟨q, hq⟩ : ∃ q, inQ B n M = q := ⟨_, rfl⟩
            rw [hq] at hinF qb9 ⊢
            obtain ⟨S5, hS5⟩ : ∃ S5, S5 = ks_set T4 b (.inr (3, [.ref (b + 1), .ref (b + 2), .ref (b + 3), .ref (b + 4), .int (nI M.length), .int (nI (mg M 80)), .int (nI q - 1), .int hei, .long (lN 0), .int (ks_bo false), .null])) := ⟨_, rfl⟩
            have w5 : ks_up T4 S5 [b] := by rw [hS5]; exact ks_up_set _ _ List.mem_cons_self
            have nb : ∀ x, x < 56 → x ∉ [b] := fun x h hx => by rw [List.mem_singleton] at hx; omega
            have lb : ∀ x ∈ [b], x ∈ LI b := fun x hx => by rw [List.mem_singleton] at hx; rw [hx]; exact LI_b ⟨Nat.le_refl _, by omega⟩
            have T4' : chT T4 n B := T2'.up w4
            have X5 := X4.ex2 T4' w5.ex hsA (fun x hx => Or.inr (by rw [List.mem_singleton] at hx; omega))
            have F5 : bkX S5 b (nI M.length) (nI (mg M 80)) (nI q - 1) hei (lN 0) false .null g1' f2' g3 g4' := by
              obtain ⟨a1, a2, a3, a4, a5, a6⟩ := F4
              have nn : ∀ j, 0 < j → b + j ∉ [b] := fun j hj hx => by rw [List.mem_singleton] at hx; omega
              exact ⟨by rw [hS5]; exact ks_set_same _ _ _, w5.at a2 (nn 1 (by decide)), w5.at a3 (nn 2 (by decide)), w5.at a4 (nn 3 (by decide)), w5.at a5 (nn 4 (by decide)), a6⟩
            have u5 := u4.trans (w5.mono lb)
            have e42d : S5.2.2 42 = T2.2.2 42 := (w5.2.2 42 (nb _ (by decide))).trans e42c
            have hh5 := hh4.up w5 (fun x hx => by rw [List.mem_singleton] at hx; omega)
            have R5 := R4.up2 w5 (fun x hx => by rw [List.mem_singleton] at hx; omega)
            have Tg5 := Tg4.up w5 (nb _ (by decide)) (nb _ (by decide)) (fun h => absurd h (nb _ (by decide))) (fun h => absurd h (nb _ (by decide)))
            have e48d := w5.at e48c (nb _ (by decide))
            have e49d := w5.at e49c (nb _ (by decide))
            have d42d := e42d.trans d42
            have K5 := w5.st K4 (fun x hx => by rw [List.mem_singleton] at hx; have := F1.2.2.2.2.2.2.2.2.1; omega)
            refine ks_putf (T := TX0) (kf := 6) kx_952 rfl in_X0 tyX0_ok nmX0 cl_X0 (by decide) F4.1 (Nat.le_of_ble_eq_true rfl) rfl rfl rfl rfl dX2_inspect_110 rfl ?_
            refine ks_tS (S' := S5) hS5.symm ?_
            refine ks_aload_n dX2_inspect_113 rfl rfl ?_
            refine ks_getf (T := TX0) (kf := 6) kx_952 rfl in_X0 cl_X0 (by decide) F5.1 rfl dX2_inspect_114 rfl ?_
            refine ks_if_geD (tgt := 123) (by omega) dX2_inspect_117 (by decide) rfl (fun h5 => ?_) (fun h5 => ?_)
            · rw [if_neg h5] at hinF
              have hqn : q - 1 < n := by omega
              have hq7 := hhei _ hqn
              have hDq := nI_D (by omega : 0 < q)
              obtain ⟨gx1, gx2, gx3, gx4, oq, -⟩ := X5.2.2.1 (q - 1) hqn
              refine ks_aload_n dX2_inspect_123 rfl rfl ?_
              refine ks_aload_n dX2_inspect_124 rfl rfl ?_
              refine ks_getf (T := TX2) (kf := 0) kx_729 rfl in_X2 cl_X2 (by decide) X5.1 rfl dX2_inspect_125 rfl ?_
              refine ks_aload_n dX2_inspect_128 rfl rfl ?_
              refine ks_getf (T := TX0) (kf := 6) kx_952 rfl in_X0 cl_X0 (by decide) F5.1 rfl dX2_inspect_129 rfl ?_
              rw [hDq]
              refine ks_aaldN (i := q - 1) (b := (bkN (B (q - 1)))) (by decide) d42d rfl (by omega) (by decide) (hbf2 (q - 1) (by omega)) dX2_inspect_132 rfl ?_
              refine ks_getf (T := TX0) (kf := 7) kx_954 rfl in_X0 cl_X0 (by decide) oq.1 rfl dX2_inspect_133 rfl ?_
              refine ks_iconst (x := nI 1) dX2_inspect_136 (by decide) rfl ?_
              refine ks_addN dX2_inspect_137 rfl ?_
              refine ks_putf (T := TX0) (kf := 7) kx_954 rfl in_X0 tyX0_ok nmX0 cl_X0 (by decide) F5.1 (Nat.le_of_ble_eq_true rfl) rfl rfl rfl rfl dX2_inspect_138 rfl ?_
              obtain ⟨S6, hS6⟩ : ∃ S6, S6 = ks_set S5 b (.inr (3, [.ref (b + 1), .ref (b + 2), .ref (b + 3), .ref (b + 4), .int (nI M.length), .int (nI (mg M 80)), .int (nI q - 1), .int (nI (bkH (B (q - 1)) + 1)), .long (lN 0), .int (ks_bo false), .null])) := ⟨_, rfl⟩
              refine ks_tS (S' := S6) hS6.symm ?_
              have w6 : ks_up S5 S6 [b] := by rw [hS6]; exact ks_up_set _ _ List.mem_cons_self
              have T5' : chT S5 n B := T4'.up w5
              have X6 := X5.ex2 T5' w6.ex hsA (fun x hx => Or.inr (by rw [List.mem_singleton] at hx; omega))
              have F6 : bkX S6 b (nI M.length) (nI (mg M 80)) (nI (q - 1)) (nI (bkH (B (q - 1)) + 1)) (lN 0) false .null g1' f2' g3 g4' := by
                obtain ⟨a1, a2, a3, a4, a5, a6⟩ := F5
                have nn : ∀ j, 0 < j → b + j ∉ [b] := fun j hj hx => by rw [List.mem_singleton] at hx; omega
                exact ⟨by rw [hS6, hDq]; exact ks_set_same _ _ _, w6.at a2 (nn 1 (by decide)), w6.at a3 (nn 2 (by decide)), w6.at a4 (nn 3 (by decide)), w6.at a5 (nn 4 (by decide)), a6⟩
              have u6 := u5.trans (w6.mono lb)
              have e42e : S6.2.2 42 = T2.2.2 42 := (w6.2.2 42 (nb _ (by decide))).trans e42d
              have hh6 := hh5.up w6 (fun x hx => by rw [List.mem_singleton] at hx; omega)
              have R6 := R5.up2 w6 (fun x hx => by rw [List.mem_singleton] at hx; omega)
              have Tg6 := Tg5.up w6 (nb _ (by decide)) (nb _ (by decide)) (fun h => absurd h (nb _ (by decide))) (fun h => absurd h (nb _ (by decide)))
              have e48e := w6.at e48d (nb _ (by decide))
              have e49e := w6.at e49d (nb _ (by decide))
              have d42e := e42e.trans d42
              have K6 := w6.st K5 (fun x hx => by rw [List.mem_singleton] at hx; have := F1.2.2.2.2.2.2.2.2.1; omega)
              refine ks_aload_n dX2_inspect_141 rfl rfl ?_
              refine ks_aload_n dX2_inspect_142 rfl rfl ?_
              refine ks_callV (n := 1) (M' := mX2_refuseHeader) (c_ch_refuseHeader (d := d + 3) X6 F6 eg b9.1 hW hqn Tg6 hh30 e48e) X6.1 cl_X2 rfl kx_1436 kx_1438 kxp_26 kx_26 kx_1439 (by decide +kernel) rfl (by decide) (Nat.le_of_ble_eq_true rfl) rfl dX2_inspect_143 rfl (fun z7 T7 y7 => ?_)
              obtain ⟨rfl, w7, ⟨N7, Tg7⟩, f7, e48f⟩ := y7
              have X7 := X6.up w7 (by decide)
              have l7 : ∀ x ∈ ([45, 48] : List Nat), x < 56 := by decide
              have F7 := F6.up w7 (fun x hx => by have := l7 x hx; omega)
              have u7 : ks_up T2 T7 (LI b) := u6.trans (w7.mono (fun x hx => List.mem_append_left _ ((by decide : ∀ x ∈ ([45, 48] : List Nat), x ∈ LIn) x hx)))
              have e42f : T7.2.2 42 = T2.2.2 42 := (w7.2.2 42 (by decide)).trans e42e
              have hh7 := hh6.up w7 (by decide)
              have R7 := R6.up w7 (by decide)
              have e49f := w7.at e49e (by decide)
              have K7 := w7.st K6 (by unfold ks_B; decide)
              have rh5 : rhF B M (q - 1) ≤ 5 := rhF_le
              obtain ⟨rr, hrr⟩ : ∃ r, rhF B M (q - 1) = r := ⟨_, rfl⟩
              rw [hrr] at hinF rh5 ⊢
              refine ks_istore_n dX2_inspect_146 (by decide) rfl ?_
              refine ks_sub [(3, _), (0, _), (1, _), (2, _)] rfl ?_
              refine ks_iload_n dX2_inspect_147 rfl rfl ?_
              refine ks_if_eqN (tgt := 155) (by omega) dX2_inspect_148 (by decide) rfl (fun h6 => ?_) (fun h6 => ?_)
              · rw [if_neg (fun h => h h6)] at hinF
                refine ks_aload_n dX2_inspect_155 rfl rfl ?_
                refine ks_aload_n dX2_inspect_156 rfl rfl ?_
                refine ks_callV (n := 1) (M' := mX2_refuseTransactions) (c_ch_refuseTransactions (d := d) X7.1 F7 hM16 eg h1 hst hh7 K7 R7 e49f hgr (by omega)) X7.1 cl_X2 rfl kx_1445 kx_1447 kxp_27 kx_26 kx_1448 (by decide +kernel) rfl (by decide) (Nat.le_of_ble_eq_true rfl) rfl dX2_inspect_157 rfl (fun z8 T8 y8 => ?_)
                obtain ⟨rfl, w8, hh8, R8, ⟨gr8, kgr8, e49g⟩, g3', F8, id8⟩ := y8
                rw [← hinF]
                refine ks_iret rfl dX2_inspect_160 ?_
                have l8 : ∀ x ∈ [9, 8, 10, 11, 12, 13, 49, 20, 21, 22, 23, 24, 25, 26, b + 3], (x < 56 ∧ x ≠ 41 ∧ x ≠ 42 ∧ x ∈ LIn ∧ x ≠ 45 ∧ x ≠ 48 ∧ x ≠ 44 ∧ x ≠ 46 ∧ x ≠ 47) ∨ (56 ≤ b ∧ b ≤ x ∧ x < b + 5) := by
                  intro x hx
                  simp only [List.mem_cons, List.not_mem_nil, or_false] at hx ⊢
                  omega
                have n8 : ∀ x, x < 56 → (x = 42 ∨ x = 44 ∨ x = 45 ∨ x = 46 ∨ x = 47 ∨ x = 48) → x ∉ [9, 8, 10, 11, 12, 13, 49, 20, 21, 22, 23, 24, 25, 26, b + 3] := by
                  intro x h1 h3 hx
                  simp only [List.mem_cons, List.not_mem_nil, or_false] at hx
                  omega
                have T7' : chT T7 n B := (T5'.up w6).up w7
                have X8 := X7.ex2 T7' w8.ex hsA (fun x hx => by rcases l8 x hx with h | h; exact Or.inl ⟨h.1, h.2.1, h.2.2.1⟩; exact Or.inr h)
                have Tg8 := Tg7.up w8 (n8 _ (by decide) (by decide)) (n8 _ (by decide) (by decide)) (fun h => absurd h (n8 _ (by decide) (by decide))) (fun h => absurd h (n8 _ (by decide) (by decide)))
                refine fin T8 _ _ _ _ _ _ _ _ (u7.trans (w8.mono (fun x hx => by rcases l8 x hx with h | h; exact List.mem_append_left _ h.2.2.2.1; exact LI_b h.2))) List.not_mem_nil ((w8.2.2 42 (n8 _ (by decide) (by decide))).trans e42f) X8 F8 hh8 R8 ⟨_, Tg8⟩ ⟨_, w8.at e48f (n8 _ (by decide) (by decide))⟩ ⟨_, kgr8, e49g⟩ (fun _ => ?_)
                rw [hq]
                refine ⟨by omega, by omega, g1', f2', g3', g4', ?_, hM16, eg, h1, hst, id8, eg4, fun c hc => by cases hc⟩
                show bkX T8 b (nI M.length) (nI (mg M 80)) (nI q - 1) (nI (bkH (B (q - 1)) + 1)) (lN 0) false .null g1' f2' g3' g4'
                rw [hDq]
                exact F8
              · refine ks_iload_n dX2_inspect_151 rfl rfl ?_
                refine ks_goto (tgt := 160) dX2_inspect_152 (by decide) ?_
                refine ks_iret rfl dX2_inspect_160 ?_
                have e9 : inF B n M = nI rr := by rw [hinF, if_pos h6]
                rw [← e9]
                exact fin T7 _ _ _ _ _ _ _ _ u7 List.not_mem_nil e42f X7 F7 hh7 R7 ⟨_, Tg7⟩ ⟨_, e48f⟩ ⟨_, hgr, e49f⟩ (ne0 (nI rr) (nI_05 rr (by omega) h6) e9)
            · refine ks_bipush (x := (-2)) dX2_inspect_120 (by decide) rfl ?_
              refine ks_iret rfl dX2_inspect_122 ?_
              have e9 : inF B n M = -2 := by rw [hinF, if_pos h5]
              rw [← e9]
              exact fin S5 _ _ _ _ _ _ _ _ u5 List.not_mem_nil e42d X5 F5 hh5 R5 ⟨_, Tg5⟩ ⟨_, e48d⟩ ⟨_, hgr, e49d⟩ (ne0 (-2) (by decide) e9)
          · refine ks_iconst (x := nI 2) dX2_inspect_98 (by decide) rfl ?_
            refine ks_iret rfl dX2_inspect_99 ?_
            exact fin4 (nI 2) (by rw [hinF, if_pos (fun h => of_decide_eq_false h4 h.2)]) (by decide)
      · refine ks_iconst (x := (-1)) dX2_inspect_68 (by decide) rfl ?_
        refine ks_iret rfl dX2_inspect_69 ?_
        exact fin0 (-1) (by rw [hinF, if_pos h2]) (by decide)
    · refine ks_iconst (x := nI 1) dX2_inspect_54 (by decide) rfl ?_
      refine ks_iret rfl dX2_inspect_55 ?_
      exact fin0 (nI 1) (by unfold inF; rw [if_pos h1]) (by decide)
  refine ks_of (by decide) rfl rfl (Nat.le_of_ble_eq_true rfl) ?_
  show ks_X l G mX2_inspect (d + 8) 0 [(0, .ref 41), (1, .ref tb)] [] S _
  obtain ⟨⟨bf, h42, hbn, hbl⟩, hsl⟩ := id hF
  have hbf2 : ∀ i, i < n → bf i = some (bkN (B i)) := by
    obtain ⟨-, ⟨bf9, q1, q2⟩, -, -⟩ := id hX
    rw [h42] at q1
    cases q1
    exact q2
  cases sl with
  | some b =>
    obtain ⟨hb5, hsA, len, cnt, par, hei, g1, f2, g3, g4, F1⟩ := hsl b rfl
    refine ks_aload_n dX2_inspect_0 rfl rfl ?_
    refine ks_getf (T := TX2) (kf := 0) kx_729 rfl in_X2 cl_X2 (by decide) hX.1 rfl dX2_inspect_1 rfl ?_
    refine ks_aload_n dX2_inspect_4 rfl rfl ?_
    refine ks_getf (T := TX2) (kf := 3) kx_735 rfl in_X2 cl_X2 (by decide) hX.1 rfl dX2_inspect_5 rfl ?_
    refine ks_aaldN (i := n) (b := b) (by decide) h42 rfl (by omega) (by decide) hbn dX2_inspect_8 rfl ?_
    refine ks_ifnonnull (tgt := 28) dX2_inspect_9 (by decide) ?_
    exact ks_sub [(0, _), (1, _)] rfl (k28 S b bf len cnt par hei g1 f2 g3 g4 (ks_up.rf S [42]).ex ⟨by omega, by omega⟩ hX h42 hbn hbl hsA hb5 (Or.inl rfl) F1)
  | none =>
    refine ks_aload_n dX2_inspect_0 rfl rfl ?_
    refine ks_getf (T := TX2) (kf := 0) kx_729 rfl in_X2 cl_X2 (by decide) hX.1 rfl dX2_inspect_1 rfl ?_
    refine ks_aload_n dX2_inspect_4 rfl rfl ?_
    refine ks_getf (T := TX2) (kf := 3) kx_735 rfl in_X2 cl_X2 (by decide) hX.1 rfl dX2_inspect_5 rfl ?_
    refine ks_aaldO (i := n) (by decide) h42 rfl (by omega) (by decide) hbn dX2_inspect_8 rfl ?_
    refine ks_ifnonnullN dX2_inspect_9 rfl ?_
    refine ks_aload_n dX2_inspect_12 rfl rfl ?_
    refine ks_getf (T := TX2) (kf := 0) kx_729 rfl in_X2 cl_X2 (by decide) hX.1 rfl dX2_inspect_13 rfl ?_
    refine ks_aload_n dX2_inspect_16 rfl rfl ?_
    refine ks_getf (T := TX2) (kf := 3) kx_735 rfl in_X2 cl_X2 (by decide) hX.1 rfl dX2_inspect_17 rfl ?_
    refine ks_newcx (ci := 3) (x := S.1) (ty0 := tyX0) (fs := [.null, .null, .null, .null, .int (nI 0), .int (nI 0), .int (nI 0), .int (nI 0), .long (lN 0), .int (ks_bo false), .null]) rfl kx_711 kx_930 kx_29 in_X0 tyX0_ok cl_X0 (fun j hj => by rcases j with _ | _ | _ | _ | _ | _ | _ | _ | _ | _ | _ | j <;> first | rfl | (exfalso; omega)) rfl (by omega) dX2_inspect_20 rfl (fun T1 q1 => ?_)
    refine ks_dup dX2_inspect_23 rfl rfl ?_
    have s64 := hT.1
    refine ks_callIN (n := 0) (M' := mX0_init) (c_bk_init (d := d + 6) (b := S.1) q1.2.2.1 q1.1 (by omega) (by omega)) rfl rfl kx_931 kx_932 kx_29 kx_933 (by decide +kernel) rfl (by decide) (Nat.le_of_ble_eq_true rfl) rfl dX2_inspect_24 rfl (fun z1 T2 y1 => ?_)
    obtain ⟨rfl, y2, y3, y4, F2⟩ := y1
    have e42 : T2.2.2 42 = some (.inl (5, 61, .inr (.inr (.inr (.inr bf))))) := ((y4 42 (by omega)).trans (q1.2.2.2 42 (by omega))).trans h42
    have q12 : T1.2.1 = S.2.1 + 11 := q1.2.1
    have ex2 : ks_ex S T2 [] := ⟨by omega, by omega, fun a _ ha => by
      have := F2.2.2.2.2.2.2.2.2.1
      exact (y4 a (by omega)).trans (q1.2.2.2 a (by omega))⟩
    refine ks_aastN (i := n) (t := 5) rfl (by decide) cl_X0 e42 F2.1 rfl (by omega) (by decide) dX2_inspect_27 rfl ?_
    have hsA : slA n B S.1 := fun i hi => ⟨Or.inl (hT.2.2 i hi).1, fun c hc => Or.inl ((hT.2.2 i hi).2 c hc)⟩
    have X2 := hX.ex2 hT ex2 hsA (fun x hx => absurd hx List.not_mem_nil)
    have X3 : chX (ks_set T2 42 (.inl (5, 61, .inr (.inr (.inr (.inr (va_up bf n (some S.1)))))))) n best cc tk B := by
      obtain ⟨h1, -, h4, h5⟩ := X2
      exact ⟨(ks_set_ne _ _ (by decide)).trans h1, ⟨_, ks_set_same _ _ _, fun i hi => by rw [va_up_ne _ _ (by omega)]; exact hbf2 i hi⟩, fun i hi => (h4 i hi).set (by decide), h5⟩
    have F3 := F2.up (ks_up_set T2 (a := 42) (L := [42]) (.inl (5, 61, .inr (.inr (.inr (.inr (va_up bf n (some S.1))))))) List.mem_cons_self) (fun x hx => by rw [List.mem_singleton] at hx; omega)
    exact ks_sub [(0, _), (1, _)] rfl (k28 _ S.1 (va_up bf n (some S.1)) _ _ _ _ _ _ _ _ ((ex2.mono (fun x hx => absurd hx List.not_mem_nil)).trans (ks_up_set _ _ List.mem_cons_self).ex) ⟨by show T2.1 ≤ _; omega, by show T2.2.1 ≤ _; omega⟩ X3 (ks_set_same _ _ _) (va_up_self _ _ _) (fun i hi => by rw [va_up_ne _ _ (by omega)]; exact hbl i hi) hsA (by show _ ≤ T2.1; omega) (Or.inr ⟨rfl, rfl⟩) F3)
