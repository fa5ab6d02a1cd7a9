/-! DRAFTTX (b; size b + 1, ids, index, sequence, value, script b + 6, scripts b + 7 ..) -/
abbrev dIn : Type := List Nat × Int32 × List Nat × Int64
abbrev dOut : Type := Int64 × List Nat
/-- a transaction of the draft: version, lock, inputs, outputs -/
abbrev dTx : Type := Int64 × Int64 × List dIn × List dOut
def dxI (id : Nat → Nat) (ix : Nat → Int32) (sc : Nat → Nat → Nat) (sz : Nat → Nat) (sq : Nat → Int64) (i : Nat) : dIn := (bytL id (32 * i) 32, ix i, bytL (sc i) 0 (sz i), sq i)
def dxO (vl : Nat → Int64) (sc : Nat → Nat → Nat) (sz : Nat → Nat) (i : Nat) : dOut := (vl i, bytL (sc (6 + i)) 0 (sz (6 + i)))
def dxG (b : Nat) : Nat → Option Nat := fun i => if i < 12 then some (b + 7 + i) else none
abbrev kA (t n : Nat) (g : Nat → Option Nat) : ks_E := .inl (t, n, .inr (.inr (.inr (.inr g))))
def dxU (S : ks_S) (b k m : Nat) (ve lo : Int64) (sz id : Nat → Nat) (ix : Nat → Int32) (sq vl : Nat → Int64) (sc : Nat → Nat → Nat) : Prop :=
  S.2.2 b = some (.inr (7, [.int (nI k), .int (nI m), .ref (b + 1), .long ve, .long lo, .ref (b + 2), .ref (b + 3), .ref (b + 4), .ref (b + 5), .ref (b + 6)])) ∧ S.2.2 (b + 1) = some (kN 12 sz) ∧ S.2.2 (b + 2) = some (kB 192 id) ∧ S.2.2 (b + 3) = some (kI 6 ix) ∧ S.2.2 (b + 4) = some (kJ 6 sq) ∧ S.2.2 (b + 5) = some (kJ 6 vl) ∧ S.2.2 (b + 6) = some (kA 4 12 (dxG b)) ∧ (∀ i, i < 12 → S.2.2 (b + 7 + i) = some (kB 600 (sc i))) ∧ kO id ∧ (∀ i, kO (sc i)) ∧ k ≤ 6 ∧ m ≤ 6 ∧ (∀ i, i < k → sz i ≤ 600) ∧ (∀ i, i < m → sz (6 + i) ≤ 600) ∧ b + 20 < ks_B
def dx_ok (S : ks_S) (b : Nat) (D : dTx) : Prop := ∃ k m sz id ix sq vl sc, dxU S b k m D.1 D.2.1 sz id ix sq vl sc ∧ D.2.2.1 = (List.range k).map (dxI id ix sc sz sq) ∧ D.2.2.2 = (List.range m).map (dxO vl sc sz)
theorem dxU.up {S S1 : ks_S} {b k m : Nat} {ve lo : Int64} {sz id : Nat → Nat} {ix : Nat → Int32} {sq vl : Nat → Int64} {sc : Nat → Nat → Nat} {L : List Nat} (h : dxU S b k m ve lo sz id ix sq vl sc) (hu : ks_up S S1 L) (hL : ∀ x ∈ L, x < b ∨ b + 18 < x) : dxU S1 b k m ve lo sz id ix sq vl sc := by
  have hn : ∀ j, j ≤ 18 → b + j ∉ L := fun j hj hm => by have := hL _ hm; omega
  obtain ⟨a1, a2, a3, a4, a5, a6, a7, a8, a9⟩ := h
  exact ⟨hu.at a1 (hn 0 (by decide)), hu.at a2 (hn 1 (by decide)), hu.at a3 (hn 2 (by decide)), hu.at a4 (hn 3 (by decide)), hu.at a5 (hn 4 (by decide)), hu.at a6 (hn 5 (by decide)), hu.at a7 (hn 6 (by decide)), fun i hi => hu.at (a8 i hi) (by rw [Nat.add_assoc]; exact hn (7 + i) (by omega)), a9⟩
theorem dx_ok.up {S S1 : ks_S} {b : Nat} {D : dTx} {L : List Nat} (h : dx_ok S b D) (hu : ks_up S S1 L) (hL : ∀ x ∈ L, x < b ∨ b + 18 < x) : dx_ok S1 b D := by
  obtain ⟨k, m, sz, id, ix, sq, vl, sc, a, c⟩ := h
  exact ⟨k, m, sz, id, ix, sq, vl, sc, a.up hu hL, c⟩
def inL (x : dIn) : List Nat := x.1 ++ numL x.2.1.toInt64 4 ++ cntL x.2.2.1.length ++ x.2.2.1 ++ numL x.2.2.2 4
def outL (x : dOut) : List Nat := numL x.1 8 ++ cntL x.2.length ++ x.2
def catL {α : Type} (f : α → List Nat) (l : List α) : List Nat := (l.map f).flatten
/-- the bytes of a transaction -/
def txL (D : dTx) : List Nat := numL D.1 4 ++ cntL D.2.2.1.length ++ catL inL D.2.2.1 ++ cntL D.2.2.2.length ++ catL outL D.2.2.2 ++ numL D.2.1 4
theorem bfA_fit {m x : List Nat} {N : Nat} (h : m.length + x.length ≤ N) : bfA (some m) N x = some (m ++ x) := if_pos h
def psz (n : Nat) : Nat := n + (if n < 76 then 1 else if n < 256 then 2 else 3)
set_option maxRecDepth 100000 in
set_option maxHeartbeats 2000000 in
theorem c_pushSize {l : Launch} {G : ks_G} {d : Nat} {S : ks_S} {n : Nat} (hn : n < 2 ^ 20) : ks_P l G yX4_pushSize mX4_pushSize d [.int (nI n)] S (fun z S' => z = some (.int (nI (psz n))) ∧ S' = S) := by
  refine ks_of (by decide) rfl rfl (Nat.le_of_ble_eq_true rfl) ?_
  show ks_X l G mX4_pushSize d 0 [(0, .int (nI n))] [] S _
  refine ks_iload_n dX4_pushSize_0 rfl rfl ?_
  refine ks_iload_n dX4_pushSize_1 rfl rfl ?_
  refine ks_bipush (x := nI 76) dX4_pushSize_2 (by decide) rfl ?_
  refine ks_icmp_geN (tgt := 11) (by omega) (by decide) dX4_pushSize_4 (by decide) rfl (fun hc4 => ?_) (fun hc4 => ?_)
  · refine ks_iload_n dX4_pushSize_11 rfl rfl ?_
    refine ks_sipush (x := nI 256) dX4_pushSize_12 (by decide) rfl ?_
    refine ks_icmp_geN (tgt := 22) (by omega) (by decide) dX4_pushSize_15 (by decide) rfl (fun hc15 => ?_) (fun hc15 => ?_)
    · refine ks_iconst (x := nI 3) dX4_pushSize_22 (by decide) rfl ?_
      refine ks_addN dX4_pushSize_23 rfl ?_
      refine ks_iret rfl dX4_pushSize_24 ?_
      refine ⟨?_, rfl⟩
      unfold psz
      first | rw [if_pos (by omega)] | rw [if_neg (by omega), if_pos (by omega)] | rw [if_neg (by omega), if_neg (by omega)]
    · refine ks_iconst (x := nI 2) dX4_pushSize_18 (by decide) rfl ?_
      refine ks_goto (tgt := 23) dX4_pushSize_19 (by decide) ?_
      refine ks_addN dX4_pushSize_23 rfl ?_
      refine ks_iret rfl dX4_pushSize_24 ?_
      refine ⟨?_, rfl⟩
      unfold psz
      first | rw [if_pos (by omega)] | rw [if_neg (by omega), if_pos (by omega)] | rw [if_neg (by omega), if_neg (by omega)]
  · refine ks_iconst (x := nI 1) dX4_pushSize_7 (by decide) rfl ?_
    refine ks_goto (tgt := 23) dX4_pushSize_8 (by decide) ?_
    refine ks_addN dX4_pushSize_23 rfl ?_
    refine ks_iret rfl dX4_pushSize_24 ?_
    refine ⟨?_, rfl⟩
    unfold psz
    first | rw [if_pos (by omega)] | rw [if_neg (by omega), if_pos (by omega)] | rw [if_neg (by omega), if_neg (by omega)]
set_option maxRecDepth 100000 in
set_option maxHeartbeats 2000000 in
theorem c_begin {l : Launch} {G : ks_G} {d : Nat} {S : ks_S} {b : Nat} {D : dTx} {ve2 lo2 : Int64} (h : dx_ok S b D) : ks_P l G yX4_begin mX4_begin d [.ref b, .long ve2, .long lo2] S (fun z S' => z = none ∧ ks_up S S' [b] ∧ dx_ok S' b (ve2, lo2, [], [])) := by
  obtain ⟨k, m, sz, id, ix, sq, vl, sc, hD, -, -⟩ := h
  generalize D.1 = ve at hD
  generalize D.2.1 = lo at hD
  refine ks_of (by decide) rfl rfl (Nat.le_of_ble_eq_true rfl) ?_
  show ks_X l G mX4_begin d 0 [(0, .ref b), (1, .long ve2), (3, .long lo2)] [] S _
  refine ks_aload_n dX4_begin_0 rfl rfl ?_
  refine ks_lload_n dX4_begin_1 rfl rfl ?_
  refine ks_putf (T := TX4) (kf := 3) kx_792 rfl in_X4 tyX4_ok nmX4 cl_X4 (by decide) hD.1 (Nat.le_of_ble_eq_true rfl) rfl rfl rfl rfl dX4_begin_2 rfl ?_
  refine ks_aload_n dX4_begin_5 rfl rfl ?_
  refine ks_lload_n dX4_begin_6 rfl rfl ?_
  refine ks_putf (T := TX4) (kf := 4) kx_793 rfl in_X4 tyX4_ok nmX4 cl_X4 (by decide) (ks_set_same _ _ _) (Nat.le_of_ble_eq_true rfl) rfl rfl rfl rfl dX4_begin_7 rfl ?_
  refine ks_aload_n dX4_begin_10 rfl rfl ?_
  refine ks_iconst (x := nI 0) dX4_begin_11 (by decide) rfl ?_
  refine ks_putf (T := TX4) (kf := 0) kx_786 rfl in_X4 tyX4_ok nmX4 cl_X4 (by decide) (ks_set_same _ _ _) (Nat.le_of_ble_eq_true rfl) rfl rfl rfl rfl dX4_begin_12 rfl ?_
  refine ks_aload_n dX4_begin_15 rfl rfl ?_
  refine ks_iconst (x := nI 0) dX4_begin_16 (by decide) rfl ?_
  refine ks_putf (T := TX4) (kf := 1) kx_788 rfl in_X4 tyX4_ok nmX4 cl_X4 (by decide) (ks_set_same _ _ _) (Nat.le_of_ble_eq_true rfl) rfl rfl rfl rfl dX4_begin_17 rfl ?_
  refine ks_ret rfl dX4_begin_20 ?_
  refine ⟨rfl, (((ks_up_set _ _ (by simp)).trans (ks_up_set _ _ (by simp))).trans (ks_up_set _ _ (by simp))).trans (ks_up_set _ _ (by simp)), 0, 0, sz, id, ix, sq, vl, sc, ⟨(ks_set_same _ _ _), ((ks_set_ne _ _ (by omega)).trans ((ks_set_ne _ _ (by omega)).trans ((ks_set_ne _ _ (by omega)).trans ((ks_set_ne _ _ (by omega)).trans hD.2.1)))), ((ks_set_ne _ _ (by omega)).trans ((ks_set_ne _ _ (by omega)).trans ((ks_set_ne _ _ (by omega)).trans ((ks_set_ne _ _ (by omega)).trans hD.2.2.1)))), ((ks_set_ne _ _ (by omega)).trans ((ks_set_ne _ _ (by omega)).trans ((ks_set_ne _ _ (by omega)).trans ((ks_set_ne _ _ (by omega)).trans hD.2.2.2.1)))), ((ks_set_ne _ _ (by omega)).trans ((ks_set_ne _ _ (by omega)).trans ((ks_set_ne _ _ (by omega)).trans ((ks_set_ne _ _ (by omega)).trans hD.2.2.2.2.1)))), ((ks_set_ne _ _ (by omega)).trans ((ks_set_ne _ _ (by omega)).trans ((ks_set_ne _ _ (by omega)).trans ((ks_set_ne _ _ (by omega)).trans hD.2.2.2.2.2.1)))), ((ks_set_ne _ _ (by omega)).trans ((ks_set_ne _ _ (by omega)).trans ((ks_set_ne _ _ (by omega)).trans ((ks_set_ne _ _ (by omega)).trans hD.2.2.2.2.2.2.1)))), ?_, hD.2.2.2.2.2.2.2.2.1, hD.2.2.2.2.2.2.2.2.2.1, by decide, by decide, fun i hi => absurd hi (Nat.not_lt_zero i), fun i hi => absurd hi (Nat.not_lt_zero i), hD.2.2.2.2.2.2.2.2.2.2.2.2.2.2⟩, rfl, rfl⟩
  intro i hi
  have n1 : b + 7 + i ≠ b := by omega
  exact (ks_set_ne _ _ n1).trans ((ks_set_ne _ _ n1).trans ((ks_set_ne _ _ n1).trans ((ks_set_ne _ _ n1).trans (hD.2.2.2.2.2.2.2.1 i hi))))
set_option maxRecDepth 100000 in
set_option maxHeartbeats 2000000 in
theorem c_takeScript {l : Launch} {G : ks_G} {d : Nat} {S : ks_S} {b k m : Nat} {ve lo : Int64} {sz id : Nat → Nat} {ix : Nat → Int32} {sq vl : Nat → Int64} {sc : Nat → Nat → Nat} (hD : dxU S b k m ve lo sz id ix sq vl sc) {wb wa N : Nat} {c : List Nat} (hw : bfS S wb wa N (some c)) (hwb : wb < b ∧ wa < b) (hN : N < 2 ^ 20) (hc : c.length ≤ 600) {i : Nat} (hi : i < 12) : ks_P l G yX4_takeScript mX4_takeScript (d + 1) [.ref b, .int (nI i), .ref wb] S (fun z S' => z = none ∧ ks_up S S' [b + 1, b + 7 + i] ∧ ∃ gs, kO gs ∧ bytL gs 0 c.length = c ∧ S'.2.2 (b + 1) = some (kN 12 (va_up sz i c.length)) ∧ S'.2.2 (b + 7 + i) = some (kB 600 gs)) := by
  obtain ⟨len, g, c1, c2, c3, c4, c5, c6⟩ := hw
  subst c5
  refine ks_of (by decide) rfl rfl (Nat.le_of_ble_eq_true rfl) ?_
  show ks_X l G mX4_takeScript (d + 1) 0 [(0, .ref b), (1, .int (nI i)), (2, .ref wb)] [] S _
  refine ks_aload_n dX4_takeScript_0 rfl rfl ?_
  refine ks_getf (T := TX1) (kf := 0) kx_55 rfl in_X1 cl_X1 (by decide) c4 rfl dX4_takeScript_1 rfl ?_
  refine ks_iconst (x := nI 0) dX4_takeScript_4 (by decide) rfl ?_
  refine ks_aload_n dX4_takeScript_5 rfl rfl ?_
  refine ks_getf (T := TX4) (kf := 9) kx_798 rfl in_X4 cl_X4 (by decide) hD.1 rfl dX4_takeScript_6 rfl ?_
  refine ks_iload_n dX4_takeScript_9 rfl rfl ?_
  refine ks_aaldN (i := i) (b := b + 7 + i) (by decide) hD.2.2.2.2.2.2.1 rfl (by omega) (by decide) (if_pos (by omega)) dX4_takeScript_10 rfl ?_
  refine ks_iconst (x := nI 0) dX4_takeScript_11 (by decide) rfl ?_
  refine ks_aload_n dX4_takeScript_12 rfl rfl ?_
  refine ks_getf (T := TX1) (kf := 1) kx_62 rfl in_X1 cl_X1 (by decide) c4 rfl dX4_takeScript_13 rfl ?_
  refine ks_copyB (n := c.length) (dp := 0) (sp := 0) c3 (hD.2.2.2.2.2.2.2.1 i (by omega)) rfl rfl rfl (by omega) (by omega) (by omega) (by decide) kx_837 kx_275 kx_274 kx_17 (by omega) (Nat.le_of_ble_eq_true rfl) dX4_takeScript_16 rfl ?_
  refine ks_aload_n dX4_takeScript_19 rfl rfl ?_
  refine ks_getf (T := TX4) (kf := 2) kx_790 rfl in_X4 cl_X4 (by decide) ((ks_set_ne _ _ (by omega)).trans hD.1) rfl dX4_takeScript_20 rfl ?_
  refine ks_iload_n dX4_takeScript_23 rfl rfl ?_
  refine ks_aload_n dX4_takeScript_24 rfl rfl ?_
  refine ks_getf (T := TX1) (kf := 1) kx_62 rfl in_X1 cl_X1 (by decide) ((ks_set_ne _ _ (by omega)).trans c4) rfl dX4_takeScript_25 rfl ?_
  refine ks_iastNN (i := i) (v := c.length) (by have := hD.2.2.2.2.2.2.2.2.2.2.2.2.2.2; omega) ((ks_set_ne _ _ (by omega)).trans hD.2.1) (by omega) (by decide) dX4_takeScript_28 rfl ?_
  refine ks_ret rfl dX4_takeScript_29 ?_
  refine ⟨rfl, (ks_up_set _ _ (by simp)).trans (ks_up_set _ _ (by simp)), _, kO_cpy c1 (hD.2.2.2.2.2.2.2.2.2.1 i) _ _ _, ?_, ks_set_same _ _ _, ((ks_set_ne _ _ (by omega)).trans (ks_set_same _ _ _))⟩
  apply List.ext_getElem
  · rw [bytL_len]
  · intro j h1 h2
    rw [bytL_len] at h1
    have e1 := bytL_at (va_cpy g (sc i) 0 0 c.length) 0 c.length h1
    have e2 := c6 j h1
    rw [Nat.zero_add, pk_cpy_in (by omega) (by omega), Nat.zero_add, Nat.sub_zero, e2] at e1
    simpa [List.getD, h1, bytL_len] using e1
def dxL (b : Nat) : List Nat := (List.range 19).map (b + ·)
theorem dxL_mem {b x : Nat} : x ∈ dxL b ↔ b ≤ x ∧ x ≤ b + 18 := by
  unfold dxL
  rw [List.mem_map]
  constructor
  · rintro ⟨j, h1, rfl⟩
    rw [List.mem_range] at h1
    omega
  · intro h
    exact ⟨x - b, List.mem_range.mpr (by omega), by omega⟩
theorem bytL_congr {f g : Nat → Nat} {i i2 n : Nat} (h : ∀ j, j < n → f (i + j) = g (i2 + j)) : bytL f i n = bytL g i2 n := by
  unfold bytL
  apply List.map_congr_left
  intro j hj
  exact h j (List.mem_range.mp hj)
theorem dxI_add {k u n : Nat} {id gi gs sz : Nat → Nat} {ix : Nat → Int32} {sq : Nat → Int64} {sc : Nat → Nat → Nat} {x : Int32} {q : Int64} {c : List Nat} (hgs : bytL gs 0 n = c) : (List.range (k + 1)).map (dxI (va_cpy gi id u (32 * k) 32) (va_up ix k x) (va_up sc k gs) (va_up sz k n) (va_up sq k q)) = (List.range k).map (dxI id ix sc sz sq) ++ [(bytL gi u 32, x, c, q)] := by
  rw [List.range_succ, List.map_append]
  congr 1
  · apply List.map_congr_left
    intro i hi
    have hi2 := List.mem_range.mp hi
    unfold dxI
    rw [va_up_ne _ _ (by omega), va_up_ne _ _ (by omega), va_up_ne _ _ (by omega), va_up_ne _ _ (by omega), bytL_congr (g := id) (i2 := 32 * i) (fun j hj => pk_cpy_out (by omega))]
  · show [dxI _ _ _ _ _ k] = _
    unfold dxI
    rw [va_up_self, va_up_self, va_up_self, va_up_self, hgs, bytL_congr (g := gi) (i2 := u) (fun j hj => by rw [pk_cpy_in (by omega) (by omega), Nat.add_sub_cancel_left])]
theorem dxO_same {k n : Nat} (hk : k < 6) {gs sz : Nat → Nat} {vl : Nat → Int64} {sc : Nat → Nat → Nat} (m : Nat) : (List.range m).map (dxO vl (va_up sc k gs) (va_up sz k n)) = (List.range m).map (dxO vl sc sz) := by
  apply List.map_congr_left
  intro i _
  unfold dxO
  rw [va_up_ne _ _ (by omega), va_up_ne _ _ (by omega)]
theorem dxO_add {m n : Nat} {gs sz : Nat → Nat} {vl : Nat → Int64} {sc : Nat → Nat → Nat} {v : Int64} {c : List Nat} (hgs : bytL gs 0 n = c) : (List.range (m + 1)).map (dxO (va_up vl m v) (va_up sc (6 + m) gs) (va_up sz (6 + m) n)) = (List.range m).map (dxO vl sc sz) ++ [(v, c)] := by
  rw [List.range_succ, List.map_append]
  congr 1
  · apply List.map_congr_left
    intro i hi
    have hi2 := List.mem_range.mp hi
    unfold dxO
    rw [va_up_ne _ _ (by omega), va_up_ne _ _ (by omega), va_up_ne _ _ (by omega)]
  · show [dxO _ _ _ m] = _
    unfold dxO
    rw [va_up_self, va_up_self, va_up_self, hgs]
theorem dxI_same {k j n : Nat} (hk : k ≤ j) {id gs sz : Nat → Nat} {ix : Nat → Int32} {sq : Nat → Int64} {sc : Nat → Nat → Nat} : (List.range k).map (dxI id ix (va_up sc j gs) (va_up sz j n) sq) = (List.range k).map (dxI id ix sc sz sq) := by
  apply List.map_congr_left
  intro i hi
  have hi2 := List.mem_range.mp hi
  unfold dxI
  rw [va_up_ne _ _ (by omega), va_up_ne _ _ (by omega)]
set_option maxRecDepth 100000 in
set_option maxHeartbeats 2000000 in
theorem c_addInput {l : Launch} {G : ks_G} {d : Nat} {S : ks_S} {b : Nat} {D : dTx} (h : dx_ok S b D) {wb wa N : Nat} {c : List Nat} (hw : bfS S wb wa N (some c)) (hwb : wb < b ∧ wa < b) (hN : N < 2 ^ 20) (hc : c.length ≤ 600) {ia Ni u : Nat} {gi : Nat → Nat} {x : Int32} {q : Int64} (hia : S.2.2 ia = some (kB Ni gi)) (hgi : kO gi) (hu : u + 32 ≤ Ni) (hNi : Ni < 2 ^ 20) (hib : ia < b ∨ b + 18 < ia) (hk : D.2.2.1.length < 6) : ks_P l G yX4_addInput mX4_addInput (d + 2) [.ref b, .ref ia, .int (nI u), .int x, .long q, .ref wb] S (fun z S' => z = none ∧ ks_up S S' (dxL b) ∧ dx_ok S' b (D.1, D.2.1, D.2.2.1 ++ [(bytL gi u 32, x, c, q)], D.2.2.2)) := by
  obtain ⟨k, m, sz, id, ix, sq, vl, sc, hD, e1, e2⟩ := h
  rw [e1, List.length_map, List.length_range] at hk
  obtain ⟨ve, lo, il, ol⟩ := D
  simp only at hD e1 e2 ⊢
  subst e1 e2
  refine ks_of (by decide) rfl rfl (Nat.le_of_ble_eq_true rfl) ?_
  show ks_X l G mX4_addInput (d + 2) 0 [(0, .ref b), (1, .ref ia), (2, .int (nI u)), (3, .int x), (4, .long q), (6, .ref wb)] [] S _
  refine ks_aload_n dX4_addInput_0 rfl rfl ?_
  refine ks_iload_n dX4_addInput_1 rfl rfl ?_
  refine ks_aload_n dX4_addInput_2 rfl rfl ?_
  refine ks_getf (T := TX4) (kf := 5) kx_794 rfl in_X4 cl_X4 (by decide) hD.1 rfl dX4_addInput_3 rfl ?_
  refine ks_bipush (x := nI 32) dX4_addInput_6 (by decide) rfl ?_
  refine ks_aload_n dX4_addInput_8 rfl rfl ?_
  refine ks_getf (T := TX4) (kf := 0) kx_786 rfl in_X4 cl_X4 (by decide) hD.1 rfl dX4_addInput_9 rfl ?_
  refine ks_mulN dX4_addInput_12 rfl ?_
  refine ks_bipush (x := nI 32) dX4_addInput_13 (by decide) rfl ?_
  refine ks_copyB (n := 32) (dp := 32 * k) (sp := u) hia hD.2.2.1 rfl rfl rfl (by omega) (by omega) (by omega) (by decide) kx_837 kx_275 kx_274 kx_17 (by omega) (Nat.le_of_ble_eq_true rfl) dX4_addInput_15 rfl ?_
  refine ks_aload_n dX4_addInput_18 rfl rfl ?_
  refine ks_getf (T := TX4) (kf := 6) kx_795 rfl in_X4 cl_X4 (by decide) ((ks_set_ne _ _ (by omega)).trans hD.1) rfl dX4_addInput_19 rfl ?_
  refine ks_aload_n dX4_addInput_22 rfl rfl ?_
  refine ks_getf (T := TX4) (kf := 0) kx_786 rfl in_X4 cl_X4 (by decide) ((ks_set_ne _ _ (by omega)).trans hD.1) rfl dX4_addInput_23 rfl ?_
  refine ks_iload_n dX4_addInput_26 rfl rfl ?_
  refine ks_iastN (i := k) (by have := hD.2.2.2.2.2.2.2.2.2.2.2.2.2.2; omega) ((ks_set_ne _ _ (by omega)).trans hD.2.2.2.1) rfl (by omega) (by decide) dX4_addInput_27 rfl ?_
  refine ks_aload_n dX4_addInput_28 rfl rfl ?_
  refine ks_getf (T := TX4) (kf := 7) kx_796 rfl in_X4 cl_X4 (by decide) ((ks_set_ne _ _ (by omega)).trans ((ks_set_ne _ _ (by omega)).trans hD.1)) rfl dX4_addInput_29 rfl ?_
  refine ks_aload_n dX4_addInput_32 rfl rfl ?_
  refine ks_getf (T := TX4) (kf := 0) kx_786 rfl in_X4 cl_X4 (by decide) ((ks_set_ne _ _ (by omega)).trans ((ks_set_ne _ _ (by omega)).trans hD.1)) rfl dX4_addInput_33 rfl ?_
  refine ks_lload dX4_addInput_36 rfl rfl ?_
  refine ks_lastN (i := k) ((ks_set_ne _ _ (by omega)).trans ((ks_set_ne _ _ (by omega)).trans hD.2.2.2.2.1)) rfl (by omega) (by decide) dX4_addInput_38 rfl ?_
  refine ks_aload_n dX4_addInput_39 rfl rfl ?_
  refine ks_aload_n dX4_addInput_40 rfl rfl ?_
  refine ks_getf (T := TX4) (kf := 0) kx_786 rfl in_X4 cl_X4 (by decide) ((ks_set_ne _ _ (by omega)).trans ((ks_set_ne _ _ (by omega)).trans ((ks_set_ne _ _ (by omega)).trans hD.1))) rfl dX4_addInput_41 rfl ?_
  refine ks_aload dX4_addInput_44 rfl rfl ?_
  have hu1 : ks_up S _ [b + 2, b + 3, b + 4] := ((ks_up_set S (a := b + 2) (kB 192 (va_cpy gi id u (32 * k) 32)) (by simp)).trans (ks_up_set _ (a := b + 3) (kI 6 (va_up ix k x)) (by simp))).trans (ks_up_set _ (a := b + 4) (kJ 6 (va_up sq k q)) (by simp))
  have hw1 := hw.up hu1 (by simp; omega) (by simp; omega)
  have hD1 : dxU (ks_set (ks_set (ks_set S (b + 2) (kB 192 (va_cpy gi id u (32 * k) 32))) (b + 3) (kI 6 (va_up ix k x))) (b + 4) (kJ 6 (va_up sq k q))) b k m ve lo sz (va_cpy gi id u (32 * k) 32) (va_up ix k x) (va_up sq k q) vl sc := ⟨((ks_set_ne _ _ (by omega)).trans ((ks_set_ne _ _ (by omega)).trans ((ks_set_ne _ _ (by omega)).trans hD.1))), ((ks_set_ne _ _ (by omega)).trans ((ks_set_ne _ _ (by omega)).trans ((ks_set_ne _ _ (by omega)).trans hD.2.1))), ((ks_set_ne _ _ (by omega)).trans ((ks_set_ne _ _ (by omega)).trans (ks_set_same _ _ _))), ((ks_set_ne _ _ (by omega)).trans (ks_set_same _ _ _)), (ks_set_same _ _ _), ((ks_set_ne _ _ (by omega)).trans ((ks_set_ne _ _ (by omega)).trans ((ks_set_ne _ _ (by omega)).trans hD.2.2.2.2.2.1))), ((ks_set_ne _ _ (by omega)).trans ((ks_set_ne _ _ (by omega)).trans ((ks_set_ne _ _ (by omega)).trans hD.2.2.2.2.2.2.1))), fun i hi => hu1.at (hD.2.2.2.2.2.2.2.1 i hi) (by simp; omega), kO_cpy hgi hD.2.2.2.2.2.2.2.2.1 _ _ _, hD.2.2.2.2.2.2.2.2.2⟩
  refine ks_callV (n := 2) (M' := mX4_takeScript) (c_takeScript (d := d) (i := k) hD1 hw1 hwb hN hc (by omega)) ((ks_set_ne _ _ (by omega)).trans ((ks_set_ne _ _ (by omega)).trans ((ks_set_ne _ _ (by omega)).trans hD.1))) cl_X4 rfl kx_838 kx_840 kxp_5 kx_28 kx_841 (by decide +kernel) rfl (by decide) (Nat.le_of_ble_eq_true rfl) rfl dX4_addInput_46 rfl (fun r2 S2 h2 => ?_)
  obtain ⟨rfl, hu2, gs, hgs, hbl, hz1, hz2⟩ := h2
  refine ks_aload_n dX4_addInput_49 rfl rfl ?_
  refine ks_dup dX4_addInput_50 rfl rfl ?_
  refine ks_getf (T := TX4) (kf := 0) kx_786 rfl in_X4 cl_X4 (by decide) (hu2.at hD1.1 (by simp only [List.mem_cons, List.not_mem_nil, or_false, not_or]; exact ⟨(by omega), (by omega)⟩)) rfl dX4_addInput_51 rfl ?_
  refine ks_iconst (x := nI 1) dX4_addInput_54 (by decide) rfl ?_
  refine ks_addN dX4_addInput_55 rfl ?_
  refine ks_putf (T := TX4) (kf := 0) kx_786 rfl in_X4 tyX4_ok nmX4 cl_X4 (by decide) (hu2.at hD1.1 (by simp only [List.mem_cons, List.not_mem_nil, or_false, not_or]; exact ⟨(by omega), (by omega)⟩)) (Nat.le_of_ble_eq_true rfl) rfl rfl rfl rfl dX4_addInput_56 rfl ?_
  refine ks_ret rfl dX4_addInput_59 ?_
  refine ⟨rfl, ?_, k + 1, m, va_up sz k c.length, va_cpy gi id u (32 * k) 32, va_up ix k x, va_up sq k q, vl, va_up sc k gs, ⟨(ks_set_same _ _ _), ((ks_set_ne _ _ (by omega)).trans hz1), ((ks_set_ne _ _ (by omega)).trans (hu2.at hD1.2.2.1 (by simp only [List.mem_cons, List.not_mem_nil, or_false, not_or]; exact ⟨(by omega), (by omega)⟩))), ((ks_set_ne _ _ (by omega)).trans (hu2.at hD1.2.2.2.1 (by simp only [List.mem_cons, List.not_mem_nil, or_false, not_or]; exact ⟨(by omega), (by omega)⟩))), ((ks_set_ne _ _ (by omega)).trans (hu2.at hD1.2.2.2.2.1 (by simp only [List.mem_cons, List.not_mem_nil, or_false, not_or]; exact ⟨(by omega), (by omega)⟩))), ((ks_set_ne _ _ (by omega)).trans (hu2.at hD1.2.2.2.2.2.1 (by simp only [List.mem_cons, List.not_mem_nil, or_false, not_or]; exact ⟨(by omega), (by omega)⟩))), ((ks_set_ne _ _ (by omega)).trans (hu2.at hD1.2.2.2.2.2.2.1 (by simp only [List.mem_cons, List.not_mem_nil, or_false, not_or]; exact ⟨(by omega), (by omega)⟩))), ?_, kO_cpy hgi hD.2.2.2.2.2.2.2.2.1 _ _ _, ?_, by omega, hD.2.2.2.2.2.2.2.2.2.2.2.1, ?_, ?_, hD.2.2.2.2.2.2.2.2.2.2.2.2.2.2⟩, (dxI_add hbl).symm, (dxO_same hk m).symm⟩
  · exact ((hu1.mono (by intro z hz; rw [dxL_mem]; simp at hz; omega)).trans (hu2.mono (by intro z hz; rw [dxL_mem]; simp at hz; omega))).trans (ks_up_set _ _ (by rw [dxL_mem]; omega))
  · intro i hi
    refine (ks_set_ne _ _ (by omega)).trans ?_
    by_cases e : i = k
    · subst e; rw [va_up_self]; exact hz2
    · rw [va_up_ne _ _ e]; exact hu2.at (hD1.2.2.2.2.2.2.2.1 i hi) (by simp; omega)
  · intro i
    by_cases e : i = k
    · subst e; rw [va_up_self]; exact hgs
    · rw [va_up_ne _ _ e]; exact hD.2.2.2.2.2.2.2.2.2.1 i
  · intro i hi
    by_cases e : i = k
    · subst e; rw [va_up_self]; exact hc
    · rw [va_up_ne _ _ e]; exact hD.2.2.2.2.2.2.2.2.2.2.2.2.1 i (by omega)
  · intro i hi
    rw [va_up_ne _ _ (by omega)]; exact hD.2.2.2.2.2.2.2.2.2.2.2.2.2.1 i hi
set_option maxRecDepth 100000 in
set_option maxHeartbeats 2000000 in
theorem c_addOutput {l : Launch} {G : ks_G} {d : Nat} {S : ks_S} {b : Nat} {D : dTx} (h : dx_ok S b D) {wb wa N : Nat} {c : List Nat} (hw : bfS S wb wa N (some c)) (hwb : wb < b ∧ wa < b) (hN : N < 2 ^ 20) (hc : c.length ≤ 600) {v : Int64} (hk : D.2.2.2.length < 6) : ks_P l G yX4_addOutput mX4_addOutput (d + 2) [.ref b, .long v, .ref wb] S (fun z S' => z = none ∧ ks_up S S' (dxL b) ∧ dx_ok S' b (D.1, D.2.1, D.2.2.1, D.2.2.2 ++ [(v, c)])) := by
  obtain ⟨k, m, sz, id, ix, sq, vl, sc, hD, e1, e2⟩ := h
  rw [e2, List.length_map, List.length_range] at hk
  obtain ⟨ve, lo, il, ol⟩ := D
  simp only at hD e1 e2 ⊢
  subst e1 e2
  have k6 := hD.2.2.2.2.2.2.2.2.2.2.1
  refine ks_of (by decide) rfl rfl (Nat.le_of_ble_eq_true rfl) ?_
  show ks_X l G mX4_addOutput (d + 2) 0 [(0, .ref b), (1, .long v), (3, .ref wb)] [] S _
  refine ks_aload_n dX4_addOutput_0 rfl rfl ?_
  refine ks_getf (T := TX4) (kf := 8) kx_797 rfl in_X4 cl_X4 (by decide) hD.1 rfl dX4_addOutput_1 rfl ?_
  refine ks_aload_n dX4_addOutput_4 rfl rfl ?_
  refine ks_getf (T := TX4) (kf := 1) kx_788 rfl in_X4 cl_X4 (by decide) hD.1 rfl dX4_addOutput_5 rfl ?_
  refine ks_lload_n dX4_addOutput_8 rfl rfl ?_
  refine ks_lastN (i := m) hD.2.2.2.2.2.1 rfl (by omega) (by decide) dX4_addOutput_9 rfl ?_
  refine ks_aload_n dX4_addOutput_10 rfl rfl ?_
  refine ks_bipush (x := nI 6) dX4_addOutput_11 (by decide) rfl ?_
  refine ks_aload_n dX4_addOutput_13 rfl rfl ?_
  refine ks_getf (T := TX4) (kf := 1) kx_788 rfl in_X4 cl_X4 (by decide) ((ks_set_ne _ _ (by omega)).trans hD.1) rfl dX4_addOutput_14 rfl ?_
  refine ks_addN dX4_addOutput_17 rfl ?_
  refine ks_aload_n dX4_addOutput_18 rfl rfl ?_
  have hu1 : ks_up S _ [b + 5] := ks_up_set S (a := b + 5) (kJ 6 (va_up vl m v)) (by simp)
  have hw1 := hw.up hu1 (by simp; omega) (by simp; omega)
  have hD1 : dxU (ks_set S (b + 5) (kJ 6 (va_up vl m v))) b k m ve lo sz id ix sq (va_up vl m v) sc := ⟨((ks_set_ne _ _ (by omega)).trans hD.1), ((ks_set_ne _ _ (by omega)).trans hD.2.1), ((ks_set_ne _ _ (by omega)).trans hD.2.2.1), ((ks_set_ne _ _ (by omega)).trans hD.2.2.2.1), ((ks_set_ne _ _ (by omega)).trans hD.2.2.2.2.1), (ks_set_same _ _ _), ((ks_set_ne _ _ (by omega)).trans hD.2.2.2.2.2.2.1), fun i hi => hu1.at (hD.2.2.2.2.2.2.2.1 i hi) (by simp; omega), hD.2.2.2.2.2.2.2.2⟩
  refine ks_callV (n := 2) (M' := mX4_takeScript) (c_takeScript (d := d) (i := 6 + m) hD1 hw1 hwb hN hc (by omega)) ((ks_set_ne _ _ (by omega)).trans hD.1) cl_X4 rfl kx_838 kx_840 kxp_5 kx_28 kx_841 (by decide +kernel) rfl (by decide) (Nat.le_of_ble_eq_true rfl) rfl dX4_addOutput_19 rfl (fun r2 S2 h2 => ?_)
  obtain ⟨rfl, hu2, gs, hgs, hbl, hz1, hz2⟩ := h2
  refine ks_aload_n dX4_addOutput_22 rfl rfl ?_
  refine ks_dup dX4_addOutput_23 rfl rfl ?_
  refine ks_getf (T := TX4) (kf := 1) kx_788 rfl in_X4 cl_X4 (by decide) (hu2.at hD1.1 (by simp only [List.mem_cons, List.not_mem_nil, or_false, not_or]; exact ⟨(by omega), (by omega)⟩)) rfl dX4_addOutput_24 rfl ?_
  refine ks_iconst (x := nI 1) dX4_addOutput_27 (by decide) rfl ?_
  refine ks_addN dX4_addOutput_28 rfl ?_
  refine ks_putf (T := TX4) (kf := 1) kx_788 rfl in_X4 tyX4_ok nmX4 cl_X4 (by decide) (hu2.at hD1.1 (by simp only [List.mem_cons, List.not_mem_nil, or_false, not_or]; exact ⟨(by omega), (by omega)⟩)) (Nat.le_of_ble_eq_true rfl) rfl rfl rfl rfl dX4_addOutput_29 rfl ?_
  refine ks_ret rfl dX4_addOutput_32 ?_
  refine ⟨rfl, ?_, k, m + 1, va_up sz (6 + m) c.length, id, ix, sq, va_up vl m v, va_up sc (6 + m) gs, ⟨(ks_set_same _ _ _), ((ks_set_ne _ _ (by omega)).trans hz1), ((ks_set_ne _ _ (by omega)).trans (hu2.at hD1.2.2.1 (by simp only [List.mem_cons, List.not_mem_nil, or_false, not_or]; exact ⟨(by omega), (by omega)⟩))), ((ks_set_ne _ _ (by omega)).trans (hu2.at hD1.2.2.2.1 (by simp only [List.mem_cons, List.not_mem_nil, or_false, not_or]; exact ⟨(by omega), (by omega)⟩))), ((ks_set_ne _ _ (by omega)).trans (hu2.at hD1.2.2.2.2.1 (by simp only [List.mem_cons, List.not_mem_nil, or_false, not_or]; exact ⟨(by omega), (by omega)⟩))), ((ks_set_ne _ _ (by omega)).trans (hu2.at hD1.2.2.2.2.2.1 (by simp only [List.mem_cons, List.not_mem_nil, or_false, not_or]; exact ⟨(by omega), (by omega)⟩))), ((ks_set_ne _ _ (by omega)).trans (hu2.at hD1.2.2.2.2.2.2.1 (by simp only [List.mem_cons, List.not_mem_nil, or_false, not_or]; exact ⟨(by omega), (by omega)⟩))), ?_, hD.2.2.2.2.2.2.2.2.1, ?_, k6, by omega, ?_, ?_, hD.2.2.2.2.2.2.2.2.2.2.2.2.2.2⟩, (dxI_same (by omega)).symm, (dxO_add hbl).symm⟩
  · exact ((hu1.mono (by intro z hz; rw [dxL_mem]; simp at hz; omega)).trans (hu2.mono (by intro z hz; rw [dxL_mem]; simp at hz; omega))).trans (ks_up_set _ _ (by rw [dxL_mem]; omega))
  · intro i hi
    refine (ks_set_ne _ _ (by omega)).trans ?_
    by_cases e : i = 6 + m
    · subst e; rw [va_up_self]; exact hz2
    · rw [va_up_ne _ _ e]; exact hu2.at (hD1.2.2.2.2.2.2.2.1 i hi) (by simp; omega)
  · intro i
    by_cases e : i = 6 + m
    · subst e; rw [va_up_self]; exact hgs
    · rw [va_up_ne _ _ e]; exact hD.2.2.2.2.2.2.2.2.2.1 i
  · intro i hi
    rw [va_up_ne _ _ (by omega)]; exact hD.2.2.2.2.2.2.2.2.2.2.2.2.1 i hi
  · intro i hi
    by_cases e : i = m
    · subst e; rw [va_up_self]; exact hc
    · rw [va_up_ne _ _ (by omega)]; exact hD.2.2.2.2.2.2.2.2.2.2.2.2.2.1 i (by omega)
