/-! MACHINE: operations in bytes -/
/-- where the bytes of a push begin -/
def hdS (op : Nat) : Nat := if op = 76 then 2 else if op = 77 then 3 else if op = 78 then 5 else 1
theorem hdS_b (op : Nat) : 1 ≤ hdS op ∧ hdS op ≤ 5 ∧ (op < 76 → hdS op = 1) := by
  unfold hdS
  refine ⟨?_, ?_, fun h => ?_⟩
  · split; decide; split; decide; split <;> decide
  · split; decide; split; decide; split <;> decide
  · rw [if_neg (by omega), if_neg (by omega), if_neg (by omega)]
/-- how many bytes the first operation of these takes, with what it pushes -/
def afL : List Nat → Option Nat
  | [] => none
  | op :: r => if r.length < hdS op - 1 then none else if r.length - (hdS op - 1) < (if op < 76 then op else leV (r.take (hdS op - 1))) then none else some (hdS op + (if op < 76 then op else leV (r.take (hdS op - 1))))
theorem bytL_take (f : Nat → Nat) (i : Nat) {n k : Nat} (h : k ≤ n) : (bytL f i n).take k = bytL f i k := by
  obtain ⟨m, rfl⟩ : ∃ m, n = k + m := ⟨n - k, by omega⟩
  rw [bytL_app, List.take_append_of_le_length (by rw [bytL_len]; exact Nat.le_refl k), List.take_of_length_le (by rw [bytL_len]; exact Nat.le_refl k)]
theorem bytL_drop (f : Nat → Nat) (i : Nat) {n k : Nat} (h : k ≤ n) : (bytL f i n).drop k = bytL f (i + k) (n - k) := by
  obtain ⟨m, rfl⟩ : ∃ m, n = k + m := ⟨n - k, by omega⟩
  rw [bytL_app, List.drop_append_of_le_length (by rw [bytL_len]; exact Nat.le_refl k), List.drop_of_length_le (by rw [bytL_len]; exact Nat.le_refl k), List.nil_append, Nat.add_sub_cancel_left]
theorem leV_num (f : Nat → Nat) : ∀ (n i : Nat), leV (bytL f i n) = ks_num f i n
  | 0, i => rfl
  | n + 1, i => by rw [bytL_cons, leV, leV_num f n (i + 1)]; rfl
def szO (g : Nat → Nat) (i : Nat) : Nat := if g i < 76 then g i else ks_num g (i + 1) (hdS (g i) - 1)
theorem afL_at {g : Nat → Nat} {i e : Nat} (h : i < e) : afL (bytL g i (e - i)) = if e - i < hdS (g i) then none else if e - i - hdS (g i) < szO g i then none else some (hdS (g i) + szO g i) := by
  obtain ⟨b1, b2, b3⟩ := hdS_b (g i)
  obtain ⟨n, hn⟩ : ∃ n, e - i = n + 1 := ⟨e - i - 1, by omega⟩
  rw [hn, bytL_cons, afL, bytL_len]
  by_cases c : n + 1 < hdS (g i)
  · rw [if_pos c, if_pos (by omega)]
  · rw [if_neg c, if_neg (by omega), bytL_take _ _ (by omega), leV_num, show n - (hdS (g i) - 1) = n + 1 - hdS (g i) by omega]
    rfl
theorem afL_b {c : List Nat} {k : Nat} (h : afL c = some k) : 1 ≤ k ∧ k ≤ c.length ∧ hdS (c.headD 0) ≤ k := by
  cases c with
  | nil => cases h
  | cons op r =>
    rw [afL] at h
    obtain ⟨b1, b2, b3⟩ := hdS_b op
    generalize (if op < 76 then op else leV (r.take (hdS op - 1))) = q at h
    split at h
    · cases h
    · split at h
      · cases h
      · injection h with h
        simp only [List.length_cons, List.headD_cons]
        omega
def aftI (g : Nat → Nat) (i e : Nat) : Int32 := match afL (bytL g i (e - i)) with
  | some k => nI (i + k)
  | none => -1
set_option maxRecDepth 100000 in
set_option maxHeartbeats 2000000 in
theorem c_headSize {l : Launch} {G : ks_G} {d : Nat} {S : ks_S} {op : Nat} (hop : op < 256) : ks_P l G yX7_headSize mX7_headSize d [.int (nI op)] S (fun z S' => z = some (.int (nI (hdS op))) ∧ S' = S) := by
  refine ks_of (by decide) rfl rfl (Nat.le_of_ble_eq_true rfl) ?_
  show ks_X l G mX7_headSize d 0 [(0, .int (nI op))] [] S _
  refine ks_iload_n dX7_headSize_0 rfl rfl ?_
  refine ks_bipush (x := nI 76) dX7_headSize_1 (by decide) rfl ?_
  refine ks_icmp_neN (tgt := 10) (by omega) (by decide) dX7_headSize_3 (by decide) rfl (fun hc3 => ?_) (fun hc3 => ?_)
  · refine ks_iload_n dX7_headSize_10 rfl rfl ?_
    refine ks_bipush (x := nI 77) dX7_headSize_11 (by decide) rfl ?_
    refine ks_icmp_neN (tgt := 20) (by omega) (by decide) dX7_headSize_13 (by decide) rfl (fun hc13 => ?_) (fun hc13 => ?_)
    · refine ks_iload_n dX7_headSize_20 rfl rfl ?_
      refine ks_bipush (x := nI 78) dX7_headSize_21 (by decide) rfl ?_
      refine ks_icmp_neN (tgt := 30) (by omega) (by decide) dX7_headSize_23 (by decide) rfl (fun hc23 => ?_) (fun hc23 => ?_)
      · refine ks_iconst (x := nI 1) dX7_headSize_30 (by decide) rfl ?_
        refine ks_iret rfl dX7_headSize_31 ?_
        refine ⟨?_, rfl⟩
        unfold hdS
        simp only [*, if_true, if_false, ↓reduceIte] <;> first | rfl | (simp_all; done) | omega
      · refine ks_iconst (x := nI 5) dX7_headSize_26 (by decide) rfl ?_
        refine ks_goto (tgt := 31) dX7_headSize_27 (by decide) ?_
        refine ks_iret rfl dX7_headSize_31 ?_
        refine ⟨?_, rfl⟩
        unfold hdS
        simp only [*, if_true, if_false, ↓reduceIte] <;> first | rfl | (simp_all; done) | omega
    · refine ks_iconst (x := nI 3) dX7_headSize_16 (by decide) rfl ?_
      refine ks_goto (tgt := 31) dX7_headSize_17 (by decide) ?_
      refine ks_iret rfl dX7_headSize_31 ?_
      refine ⟨?_, rfl⟩
      unfold hdS
      simp only [*, if_true, if_false, ↓reduceIte] <;> first | rfl | (simp_all; done) | omega
  · refine ks_iconst (x := nI 2) dX7_headSize_6 (by decide) rfl ?_
    refine ks_goto (tgt := 31) dX7_headSize_7 (by decide) ?_
    refine ks_iret rfl dX7_headSize_31 ?_
    refine ⟨?_, rfl⟩
    unfold hdS
    simp only [*, if_true, if_false, ↓reduceIte] <;> first | rfl | (simp_all; done) | omega
set_option maxRecDepth 100000 in
set_option maxHeartbeats 2000000 in
theorem c_after {l : Launch} {G : ks_G} {d : Nat} {S : ks_S} {y N i e : Nat} {g : Nat → Nat} (hy : S.2.2 y = some (kB N g)) (hg : kO g) (hN : N < 2 ^ 20) (he : e ≤ N) (hi : i < e) : ks_P l G yX7_after mX7_after (d + 1) [.ref y, .int (nI i), .int (nI e)] S (fun z S' => z = some (.int (aftI g i e)) ∧ S' = S) := by
  obtain ⟨b1, b2, b3⟩ := hdS_b (g i)
  have hv := ks_num_lt hg (hdS (g i) - 1) (i + 1)
  have hv2 : ks_num g (i + 1) (hdS (g i) - 1) < 256 ^ 4 := Nat.lt_of_lt_of_le hv (Nat.pow_le_pow_right (by decide) (by omega))
  refine ks_of (by decide) rfl rfl (Nat.le_of_ble_eq_true rfl) ?_
  show ks_X l G mX7_after (d + 1) 0 [(0, .ref y), (1, .int (nI i)), (2, .int (nI e))] [] S _
  unfold aftI
  rw [afL_at hi]
  refine ks_aload_n dX7_after_0 rfl rfl ?_
  refine ks_iload_n dX7_after_1 rfl rfl ?_
  refine ks_baldB (i := i) hy rfl (by omega) (by omega) dX7_after_2 rfl ?_
  refine ks_sipush (x := nI 255) dX7_after_3 (by decide) rfl ?_
  refine ks_andB (hg _) dX7_after_6 rfl ?_
  have hy6 : g i < 256 := (hg _)
  refine ks_istore_n dX7_after_7 (by decide) rfl ?_
  refine ks_sub [(3, _), (0, _), (1, _), (2, _)] rfl ?_
  refine ks_iload_n dX7_after_8 rfl rfl ?_
  refine ks_callS (n := 1) (M' := mX7_headSize) (c_headSize (d := d) (op := g i) (by omega)) kx_1334 kx_1335 kx_24 kx_1336 (by decide +kernel) rfl (by decide) (Nat.le_of_ble_eq_true rfl) rfl dX7_after_9 rfl (fun r1 S1 h1 => ?_)
  obtain ⟨rfl, hS1⟩ := h1
  obtain rfl := hS1.symm
  refine ks_istore dX7_after_12 (by decide) rfl ?_
  refine ks_sub [(4, _), (0, _), (1, _), (2, _), (3, _)] rfl ?_
  refine ks_iload dX7_after_14 rfl rfl ?_
  refine ks_iload_n dX7_after_16 rfl rfl ?_
  refine ks_iload_n dX7_after_17 rfl rfl ?_
  refine ks_subN (by omega) dX7_after_18 rfl ?_
  refine ks_icmp_leN (tgt := 24) (by omega) (by omega) dX7_after_19 (by decide) rfl (fun h1 => ?_) (fun h1 => ?_)
  · refine ks_iload_n dX7_after_24 rfl rfl ?_
    refine ks_bipush (x := nI 76) dX7_after_25 (by decide) rfl ?_
    refine ks_icmp_geN (tgt := 35) (by omega) (by decide) dX7_after_27 (by decide) rfl (fun h2 => ?_) (fun h2 => ?_)
    · refine ks_aload_n dX7_after_35 rfl rfl ?_
      refine ks_iload_n dX7_after_36 rfl rfl ?_
      refine ks_iconst (x := nI 1) dX7_after_37 (by decide) rfl ?_
      refine ks_addN dX7_after_38 rfl ?_
      refine ks_iload dX7_after_39 rfl rfl ?_
      refine ks_iconst (x := nI 1) dX7_after_41 (by decide) rfl ?_
      refine ks_subN (by omega) dX7_after_42 rfl ?_
      refine ks_callS (n := 3) (M' := mX1_number) (c_Buffer_number (d := d) (i := i + 1) (sz := hdS (g i) - 1) hy hg (by omega) (by omega) (by omega)) kx_1337 kx_998 kx_2 kx_999 (by decide +kernel) rfl (by decide) (Nat.le_of_ble_eq_true rfl) rfl dX7_after_43 rfl (fun r1 S1 h1 => ?_)
      obtain ⟨rfl, hS1⟩ := h1
      obtain rfl := hS1.symm
      have es : szO g i = ks_num g (i + 1) (hdS (g i) - 1) := by unfold szO; rw [if_neg (by omega)]
      refine ks_lstore dX7_after_46 (by decide) rfl ?_
      refine ks_sub [(5, _), (0, _), (1, _), (2, _), (3, _), (4, _)] rfl ?_
      refine ks_lload dX7_after_48 rfl rfl ?_
      refine ks_iload_n dX7_after_50 rfl rfl ?_
      refine ks_iload_n dX7_after_51 rfl rfl ?_
      refine ks_subN (by omega) dX7_after_52 rfl ?_
      refine ks_iload dX7_after_53 rfl rfl ?_
      refine ks_subN (by omega) dX7_after_55 rfl ?_
      refine ks_i2lN (by omega) dX7_after_56 rfl ?_
      refine ks_lif_leN (tgt := 65) (by omega) (by omega) dX7_after_57 rfl dX7_after_58 (by decide) rfl (fun h3 => ?_) (fun h3 => ?_)
      · refine ks_iload_n dX7_after_65 rfl rfl ?_
        refine ks_iload dX7_after_66 rfl rfl ?_
        refine ks_addN dX7_after_68 rfl ?_
        refine ks_lload dX7_after_69 rfl rfl ?_
        refine ks_l2iN dX7_after_71 rfl ?_
        refine ks_addN dX7_after_72 rfl ?_
        refine ks_iret rfl dX7_after_73 ?_
        refine ⟨?_, rfl⟩
        rw [if_neg (by omega), es, if_neg (by omega)]
        show _ = some (Value.int (nI _))
        rw [← Nat.add_assoc]
      · refine ks_iconst (x := (-1)) dX7_after_61 (by decide) rfl ?_
        refine ks_goto (tgt := 73) dX7_after_62 (by decide) ?_
        refine ks_iret rfl dX7_after_73 ?_
        refine ⟨?_, rfl⟩
        rw [if_neg (by omega), es, if_pos (by omega)]
    · have es : szO g i = g i := by unfold szO; rw [if_pos (by omega)]
      refine ks_iload_n dX7_after_30 rfl rfl ?_
      refine ks_i2lN (by omega) dX7_after_31 rfl ?_
      refine ks_goto (tgt := 46) dX7_after_32 (by decide) ?_
      refine ks_lstore dX7_after_46 (by decide) rfl ?_
      refine ks_sub [(5, _), (0, _), (1, _), (2, _), (3, _), (4, _)] rfl ?_
      refine ks_lload dX7_after_48 rfl rfl ?_
      refine ks_iload_n dX7_after_50 rfl rfl ?_
      refine ks_iload_n dX7_after_51 rfl rfl ?_
      refine ks_subN (by omega) dX7_after_52 rfl ?_
      refine ks_iload dX7_after_53 rfl rfl ?_
      refine ks_subN (by omega) dX7_after_55 rfl ?_
      refine ks_i2lN (by omega) dX7_after_56 rfl ?_
      refine ks_lif_leN (tgt := 65) (by omega) (by omega) dX7_after_57 rfl dX7_after_58 (by decide) rfl (fun h3 => ?_) (fun h3 => ?_)
      · refine ks_iload_n dX7_after_65 rfl rfl ?_
        refine ks_iload dX7_after_66 rfl rfl ?_
        refine ks_addN dX7_after_68 rfl ?_
        refine ks_lload dX7_after_69 rfl rfl ?_
        refine ks_l2iN dX7_after_71 rfl ?_
        refine ks_addN dX7_after_72 rfl ?_
        refine ks_iret rfl dX7_after_73 ?_
        refine ⟨?_, rfl⟩
        rw [if_neg (by omega), es, if_neg (by omega)]
        show _ = some (Value.int (nI _))
        rw [← Nat.add_assoc]
      · refine ks_iconst (x := (-1)) dX7_after_61 (by decide) rfl ?_
        refine ks_goto (tgt := 73) dX7_after_62 (by decide) ?_
        refine ks_iret rfl dX7_after_73 ?_
        refine ⟨?_, rfl⟩
        rw [if_neg (by omega), es, if_pos (by omega)]
  · refine ks_iconst (x := (-1)) dX7_after_22 (by decide) rfl ?_
    refine ks_iret rfl dX7_after_23 ?_
    refine ⟨?_, rfl⟩
    rw [if_pos (by omega)]
theorem aftI_cases (g : Nat → Nat) (i e : Nat) : (afL (bytL g i (e - i)) = none ∧ aftI g i e = -1) ∨ ∃ k, afL (bytL g i (e - i)) = some k ∧ aftI g i e = nI (i + k) ∧ 1 ≤ k ∧ k ≤ e - i ∧ hdS (g i) ≤ k := by
  unfold aftI
  cases h : afL (bytL g i (e - i)) with
  | none => exact Or.inl ⟨rfl, rfl⟩
  | some k =>
    have := afL_b h
    rw [bytL_len] at this
    refine Or.inr ⟨k, rfl, rfl, this.1, this.2.1, ?_⟩
    have h2 : (bytL g i (e - i)).headD 0 = g i := by
      cases hn : e - i with
      | zero => rw [hn] at this; omega
      | succ n => rw [bytL_cons]; rfl
    rw [← h2]
    exact this.2.2
/-- how many signature checks an operation counts for -/
def askW (op : Nat) : Nat := if 172 ≤ op ∧ op ≤ 175 then (if op < 174 then 1 else 20) else 0
def askN : Nat → List Nat → Nat
  | 0, _ => 0
  | f + 1, c => if c = [] then 0 else askW (c.headD 0) + (match afL c with
    | none => 0
    | some k => askN f (c.drop k))
def ask_ (c : List Nat) : Nat := askN c.length c
theorem askN_le : ∀ (f : Nat) (c : List Nat), askN f c ≤ 20 * f
  | 0, c => Nat.le_refl 0
  | f + 1, c => by
    unfold askN
    have : askW (c.headD 0) ≤ 20 := by unfold askW; split; split <;> omega; omega
    split
    · omega
    · cases afL c with
      | none => simp only; omega
      | some k => simp only; have := askN_le f (c.drop k); omega
theorem bytL_nil_iff (g : Nat → Nat) (i n : Nat) : bytL g i n = [] ↔ n = 0 := by
  constructor
  · intro h; have := congrArg List.length h; rwa [bytL_len] at this
  · rintro rfl; rfl
theorem bytL_head (g : Nat → Nat) {i n : Nat} (h : 0 < n) : (bytL g i n).headD 0 = g i := by
  obtain ⟨m, rfl⟩ : ∃ m, n = m + 1 := ⟨n - 1, by omega⟩
  rw [bytL_cons]
  rfl
set_option maxRecDepth 100000 in
set_option maxHeartbeats 2000000 in
theorem c_asks {l : Launch} {G : ks_G} {d : Nat} {S : ks_S} {y N s e : Nat} {g : Nat → Nat} (hy : S.2.2 y = some (kB N g)) (hg : kO g) (hN : N < 2 ^ 20) (he : e ≤ N) (hs : s ≤ e) : ks_P l G yX7_asks mX7_asks (d + 2) [.ref y, .int (nI s), .int (nI e)] S (fun z S' => z = some (.int (nI (ask_ (bytL g s (e - s))))) ∧ S' = S) := by
  have fin : ∀ (m : Nat) (r : List (Nat × Value)) (x : Nat) (Q : Option Value → ks_S → Prop), Q (some (.int (nI x))) S → ks_X l G mX7_asks (d + 2) 83 ((3, .int (nI x)) :: r) [] S Q := by
    intro m r x Q hQ
    refine ks_iload_n dX7_asks_83 rfl rfl ?_
    exact ks_iret rfl dX7_asks_84 hQ
  have loop : ∀ f p i x, e - p ≤ f → i ≤ p → s ≤ p → p ≤ e → x + 20 * f < 2 ^ 30 → ks_X l G mX7_asks (d + 2) 8 [(0, .ref y), (2, .int (nI e)), (3, .int (nI x)), (4, .int (nI p)), (5, .int (nI i))] [] S (fun z S' => z = some (.int (nI (x + askN f (bytL g p (e - p))))) ∧ S' = S) := by
    intro f
    induction f with
    | zero =>
      intro p i x hf hi hp hpe hx
      rw [show askN 0 (bytL g p (e - p)) = 0 from rfl, Nat.add_zero]
      refine ks_iload dX7_asks_8 rfl rfl ?_
      refine ks_iload_n dX7_asks_10 rfl rfl ?_
      refine ks_icmp_geN (tgt := 83) (by omega) (by omega) dX7_asks_11 (by decide) rfl (fun h1 => ?_) (fun h1 => ?_)
      · refine ks_sub [(3, _)] rfl (fin 0 _ _ _ ⟨rfl, rfl⟩)
      · refine ks_iload dX7_asks_14 rfl rfl ?_
        refine ks_if_ltN (tgt := 83) (by omega) dX7_asks_16 (by decide) rfl ?_
        refine ks_iload dX7_asks_19 rfl rfl ?_
        refine ks_iload_n dX7_asks_21 rfl rfl ?_
        refine ks_icmp_geN (tgt := 83) (by omega) (by omega) dX7_asks_22 (by decide) rfl (fun h3 => ?_) (fun h3 => ?_)
        · refine ks_sub [(3, _)] rfl (fin 0 _ _ _ ⟨rfl, rfl⟩)
        · omega
    | succ f ih =>
      intro p i x hf hi hp hpe hx
      refine ks_iload dX7_asks_8 rfl rfl ?_
      refine ks_iload_n dX7_asks_10 rfl rfl ?_
      refine ks_icmp_geN (tgt := 83) (by omega) (by omega) dX7_asks_11 (by decide) rfl (fun h1 => ?_) (fun h1 => ?_)
      · have e0 : e - p = 0 := by omega
        rw [e0, show askN (f + 1) (bytL g p 0) = 0 from rfl, Nat.add_zero]
        refine ks_sub [(3, _)] rfl (fin 0 _ _ _ ⟨rfl, rfl⟩)
      · refine ks_iload dX7_asks_14 rfl rfl ?_
        refine ks_if_ltN (tgt := 83) (by omega) dX7_asks_16 (by decide) rfl ?_
        refine ks_iload dX7_asks_19 rfl rfl ?_
        refine ks_iload_n dX7_asks_21 rfl rfl ?_
        refine ks_icmp_geN (tgt := 83) (by omega) (by omega) dX7_asks_22 (by decide) rfl (fun h3 => ?_) (fun h3 => ?_)
        · have e0 : e - p = 0 := by omega
          rw [e0, show askN (f + 1) (bytL g p 0) = 0 from rfl, Nat.add_zero]
          refine ks_sub [(3, _)] rfl (fin 0 _ _ _ ⟨rfl, rfl⟩)
        · refine ks_aload_n dX7_asks_25 rfl rfl ?_
          refine ks_iload dX7_asks_26 rfl rfl ?_
          refine ks_baldB (i := p) hy rfl (by omega) (by omega) dX7_asks_28 rfl ?_
          refine ks_sipush (x := nI 255) dX7_asks_29 (by decide) rfl ?_
          refine ks_andB (hg _) dX7_asks_32 rfl ?_
          have hy32 : g p < 256 := (hg _)
          refine ks_istore dX7_asks_33 (by decide) rfl ?_
          refine ks_sub [(6, _), (0, _), (2, _), (3, _), (4, _), (5, _)] rfl ?_
          refine ks_aload_n dX7_asks_35 rfl rfl ?_
          refine ks_iload dX7_asks_36 rfl rfl ?_
          refine ks_iload_n dX7_asks_38 rfl rfl ?_
          refine ks_callS (n := 3) (M' := mX7_after) (c_after (d := d) hy hg hN he (by omega)) kx_1331 kx_1332 kx_24 kx_1333 (by decide +kernel) rfl (by decide) (Nat.le_of_ble_eq_true rfl) rfl dX7_asks_39 rfl (fun r1 S1 h1 => ?_)
          obtain ⟨rfl, hS1⟩ := h1
          obtain rfl := hS1.symm
          have eN : x + askN (f + 1) (bytL g p (e - p)) = x + askW (g p) + (match afL (bytL g p (e - p)) with | none => 0 | some k => askN f ((bytL g p (e - p)).drop k)) := by
            rw [askN, if_neg (fun h => by have := (bytL_nil_iff g p (e - p)).mp h; omega), bytL_head g (by omega), Nat.add_assoc]
          rw [eN]
          have rest : ∀ x2, x2 = x + askW (g p) → ks_X l G mX7_asks (d + 2) 77 [(0, .ref y), (2, .int (nI e)), (3, .int (nI x2)), (4, .int (aftI g p e)), (5, .int (nI i))] [] S (fun z S' => z = some (.int (nI (x + askW (g p) + (match afL (bytL g p (e - p)) with | none => 0 | some k => askN f ((bytL g p (e - p)).drop k))))) ∧ S' = S) := by
            intro x2 hx2
            have hw : askW (g p) ≤ 20 := by unfold askW; split; split <;> omega; omega
            rcases aftI_cases g p e with ⟨a1, a2⟩ | ⟨k, a1, a2, a3, a4, a5⟩
            · rw [a1, a2]
              show ks_X l G mX7_asks (d + 2) 77 _ [] S (fun z S' => z = some (.int (nI (x + askW (g p) + 0))) ∧ S' = S)
              refine ks_incN (c := 1) (e := i + 1) dX7_asks_77 rfl (by decide) rfl (by decide) rfl ?_
              refine ks_sub [(5, _), (0, _), (2, _), (3, _), (4, _)] rfl ?_
              refine ks_goto (tgt := 8) dX7_asks_80 (by decide) ?_
              refine ks_iload dX7_asks_8 rfl rfl ?_
              refine ks_iload_n dX7_asks_10 rfl rfl ?_
              refine ks_icmp_geN (tgt := 83) (by omega) (by omega) dX7_asks_11 (by decide) rfl (fun g1 => ?_) (fun g1 => ?_)
              · rw [Nat.add_zero, ← hx2]
                refine ks_sub [(3, _)] rfl (fin 0 _ _ _ ⟨rfl, rfl⟩)
              · refine ks_iload dX7_asks_14 rfl rfl ?_
                refine ks_if_lt (tgt := 83) dX7_asks_16 (by decide) rfl (fun g2 => ?_) (fun g2 => ?_)
                · rw [Nat.add_zero, ← hx2]
                  refine ks_sub [(3, _)] rfl (fin 0 _ _ _ ⟨rfl, rfl⟩)
                · exact absurd (show ((-1 : Int32) < 0) by decide) (by first | exact g2 | exact Int32.not_lt.mpr g2)
            · rw [a1, a2]
              show ks_X l G mX7_asks (d + 2) 77 _ [] S (fun z S' => z = some (.int (nI (x + askW (g p) + askN f ((bytL g p (e - p)).drop k)))) ∧ S' = S)
              refine ks_incN (c := 1) (e := i + 1) dX7_asks_77 rfl (by decide) rfl (by decide) rfl ?_
              refine ks_sub [(5, _), (0, _), (2, _), (3, _), (4, _)] rfl ?_
              refine ks_goto (tgt := 8) dX7_asks_80 (by decide) ?_
              rw [bytL_drop _ _ a4, show e - p - k = e - (p + k) by omega, ← hx2]
              exact ks_sub [(0, _), (2, _), (3, _), (4, _), (5, _)] rfl (ih (p + k) (i + 1) x2 (by omega) (by omega) (by omega) (by omega) (by omega))
          refine ks_istore dX7_asks_42 (by decide) rfl ?_
          refine ks_sub [(4, _), (0, _), (2, _), (3, _), (5, _), (6, _)] rfl ?_
          refine ks_iload dX7_asks_44 rfl rfl ?_
          refine ks_sipush (x := nI 172) dX7_asks_46 (by decide) rfl ?_
          refine ks_icmp_ltN (tgt := 77) (by omega) (by decide) dX7_asks_49 (by decide) rfl (fun hc49 => ?_) (fun hc49 => ?_)
          · refine ks_sub [(0, _), (2, _), (3, _), (4, _), (5, _)] rfl ?_
            exact ks_sub [(0, _), (2, _), (3, _), (4, _), (5, _)] rfl (rest _ (by unfold askW; first | rw [if_neg (by omega), Nat.add_zero] | rw [if_pos (by omega), if_pos (by omega)] | rw [if_pos (by omega), if_neg (by omega)]))
          · refine ks_iload dX7_asks_52 rfl rfl ?_
            refine ks_sipush (x := nI 175) dX7_asks_54 (by decide) rfl ?_
            refine ks_icmp_gtN (tgt := 77) (by omega) (by decide) dX7_asks_57 (by decide) rfl (fun hc57 => ?_) (fun hc57 => ?_)
            · refine ks_sub [(0, _), (2, _), (3, _), (4, _), (5, _)] rfl ?_
              exact ks_sub [(0, _), (2, _), (3, _), (4, _), (5, _)] rfl (rest _ (by unfold askW; first | rw [if_neg (by omega), Nat.add_zero] | rw [if_pos (by omega), if_pos (by omega)] | rw [if_pos (by omega), if_neg (by omega)]))
            · refine ks_iload_n dX7_asks_60 rfl rfl ?_
              refine ks_iload dX7_asks_61 rfl rfl ?_
              refine ks_sipush (x := nI 174) dX7_asks_63 (by decide) rfl ?_
              refine ks_icmp_geN (tgt := 73) (by omega) (by decide) dX7_asks_66 (by decide) rfl (fun hc66 => ?_) (fun hc66 => ?_)
              · refine ks_bipush (x := nI 20) dX7_asks_73 (by decide) rfl ?_
                refine ks_addN dX7_asks_75 rfl ?_
                refine ks_istore_n dX7_asks_76 (by decide) rfl ?_
                refine ks_sub [(3, _), (0, _), (2, _), (4, _), (5, _), (6, _)] rfl ?_
                refine ks_sub [(0, _), (2, _), (3, _), (4, _), (5, _)] rfl ?_
                exact ks_sub [(0, _), (2, _), (3, _), (4, _), (5, _)] rfl (rest _ (by unfold askW; first | rw [if_neg (by omega), Nat.add_zero] | rw [if_pos (by omega), if_pos (by omega)] | rw [if_pos (by omega), if_neg (by omega)]))
              · refine ks_iconst (x := nI 1) dX7_asks_69 (by decide) rfl ?_
                refine ks_goto (tgt := 75) dX7_asks_70 (by decide) ?_
                refine ks_addN dX7_asks_75 rfl ?_
                refine ks_istore_n dX7_asks_76 (by decide) rfl ?_
                refine ks_sub [(3, _), (0, _), (2, _), (4, _), (5, _), (6, _)] rfl ?_
                refine ks_sub [(0, _), (2, _), (3, _), (4, _), (5, _)] rfl ?_
                exact ks_sub [(0, _), (2, _), (3, _), (4, _), (5, _)] rfl (rest _ (by unfold askW; first | rw [if_neg (by omega), Nat.add_zero] | rw [if_pos (by omega), if_pos (by omega)] | rw [if_pos (by omega), if_neg (by omega)]))
  refine ks_of (by decide) rfl rfl (Nat.le_of_ble_eq_true rfl) ?_
  show ks_X l G mX7_asks (d + 2) 0 [(0, .ref y), (1, .int (nI s)), (2, .int (nI e))] [] S _
  refine ks_iconst (x := nI 0) dX7_asks_0 (by decide) rfl ?_
  refine ks_istore_n dX7_asks_1 (by decide) rfl ?_
  refine ks_sub [(3, _), (0, _), (1, _), (2, _)] rfl ?_
  refine ks_iload_n dX7_asks_2 rfl rfl ?_
  refine ks_istore dX7_asks_3 (by decide) rfl ?_
  refine ks_sub [(4, _), (0, _), (1, _), (2, _), (3, _)] rfl ?_
  refine ks_iload_n dX7_asks_5 rfl rfl ?_
  refine ks_istore dX7_asks_6 (by decide) rfl ?_
  refine ks_sub [(5, _), (0, _), (1, _), (2, _), (3, _), (4, _)] rfl ?_
  have h9 := loop (e - s) s s 0 (Nat.le_refl _) (Nat.le_refl _) (Nat.le_refl _) hs (by omega)
  rw [Nat.zero_add] at h9
  unfold ask_
  rw [bytL_len]
  exact ks_sub [(0, _), (2, _), (3, _), (4, _), (5, _)] rfl h9
def pshN : Nat → List Nat → Bool
  | 0, _ => true
  | f + 1, c => if c = [] then true else if 96 < c.headD 0 then false else (match afL c with
    | none => false
    | some k => pshN f (c.drop k))
/-- whether these bytes are pushes and constants alone -/
def psh_ (c : List Nat) : Bool := pshN c.length c
set_option maxRecDepth 100000 in
set_option maxHeartbeats 2000000 in
theorem c_hasPushesAlone {l : Launch} {G : ks_G} {d : Nat} {S : ks_S} {y N s e : Nat} {g : Nat → Nat} (hy : S.2.2 y = some (kB N g)) (hg : kO g) (hN : N < 2 ^ 20) (he : e ≤ N) (hs : s ≤ e) : ks_P l G yX7_hasPushesAlone mX7_hasPushesAlone (d + 2) [.ref y, .int (nI s), .int (nI e)] S (fun z S' => z = some (.int (ks_bo (psh_ (bytL g s (e - s))))) ∧ S' = S) := by
  have loop : ∀ f p i, e - p ≤ f → i ≤ p → s ≤ p → p ≤ e → ks_X l G mX7_hasPushesAlone (d + 2) 5 [(0, .ref y), (2, .int (nI e)), (3, .int (nI p)), (4, .int (nI i))] [] S (fun z S' => z = some (.int (ks_bo (pshN f (bytL g p (e - p))))) ∧ S' = S) := by
    intro f
    induction f with
    | zero =>
      intro p i hf hi hp hpe
      rw [show pshN 0 (bytL g p (e - p)) = true from rfl]
      refine ks_iload dX7_hasPushesAlone_5 rfl rfl ?_
      refine ks_iload_n dX7_hasPushesAlone_7 rfl rfl ?_
      refine ks_icmp_geN (tgt := 47) (by omega) (by omega) dX7_hasPushesAlone_8 (by decide) rfl (fun h1 => ?_) (fun h1 => ?_)
      · refine ks_iload_n dX7_hasPushesAlone_47 rfl rfl ?_
        refine ks_if_ltN (tgt := 55) (by omega) dX7_hasPushesAlone_48 (by decide) rfl ?_
        refine ks_iconst (x := nI 1) dX7_hasPushesAlone_51 (by decide) rfl ?_
        refine ks_goto (tgt := 56) dX7_hasPushesAlone_52 (by decide) ?_
        refine ks_zret rfl rfl dX7_hasPushesAlone_56 ?_
        exact ⟨rfl, rfl⟩
      · refine ks_iload_n dX7_hasPushesAlone_11 rfl rfl ?_
        refine ks_if_ltN (tgt := 47) (by omega) dX7_hasPushesAlone_12 (by decide) rfl ?_
        refine ks_iload_n dX7_hasPushesAlone_15 rfl rfl ?_
        refine ks_iload_n dX7_hasPushesAlone_16 rfl rfl ?_
        refine ks_icmp_geN (tgt := 47) (by omega) (by omega) dX7_hasPushesAlone_17 (by decide) rfl (fun h3 => ?_) (fun h3 => ?_)
        · refine ks_iload_n dX7_hasPushesAlone_47 rfl rfl ?_
          refine ks_if_ltN (tgt := 55) (by omega) dX7_hasPushesAlone_48 (by decide) rfl ?_
          refine ks_iconst (x := nI 1) dX7_hasPushesAlone_51 (by decide) rfl ?_
          refine ks_goto (tgt := 56) dX7_hasPushesAlone_52 (by decide) ?_
          refine ks_zret rfl rfl dX7_hasPushesAlone_56 ?_
          exact ⟨rfl, rfl⟩
        · omega
    | succ f ih =>
      intro p i hf hi hp hpe
      refine ks_iload dX7_hasPushesAlone_5 rfl rfl ?_
      refine ks_iload_n dX7_hasPushesAlone_7 rfl rfl ?_
      refine ks_icmp_geN (tgt := 47) (by omega) (by omega) dX7_hasPushesAlone_8 (by decide) rfl (fun h1 => ?_) (fun h1 => ?_)
      · have e0 : e - p = 0 := by omega
        rw [e0, show pshN (f + 1) (bytL g p 0) = true from rfl]
        refine ks_iload_n dX7_hasPushesAlone_47 rfl rfl ?_
        refine ks_if_ltN (tgt := 55) (by omega) dX7_hasPushesAlone_48 (by decide) rfl ?_
        refine ks_iconst (x := nI 1) dX7_hasPushesAlone_51 (by decide) rfl ?_
        refine ks_goto (tgt := 56) dX7_hasPushesAlone_52 (by decide) ?_
        refine ks_zret rfl rfl dX7_hasPushesAlone_56 ?_
        exact ⟨rfl, rfl⟩
      · refine ks_iload_n dX7_hasPushesAlone_11 rfl rfl ?_
        refine ks_if_ltN (tgt := 47) (by omega) dX7_hasPushesAlone_12 (by decide) rfl ?_
        refine ks_iload_n dX7_hasPushesAlone_15 rfl rfl ?_
        refine ks_iload_n dX7_hasPushesAlone_16 rfl rfl ?_
        refine ks_icmp_geN (tgt := 47) (by omega) (by omega) dX7_hasPushesAlone_17 (by decide) rfl (fun h3 => ?_) (fun h3 => ?_)
        · have e0 : e - p = 0 := by omega
          rw [e0, show pshN (f + 1) (bytL g p 0) = true from rfl]
          refine ks_iload_n dX7_hasPushesAlone_47 rfl rfl ?_
          refine ks_if_ltN (tgt := 55) (by omega) dX7_hasPushesAlone_48 (by decide) rfl ?_
          refine ks_iconst (x := nI 1) dX7_hasPushesAlone_51 (by decide) rfl ?_
          refine ks_goto (tgt := 56) dX7_hasPushesAlone_52 (by decide) ?_
          refine ks_zret rfl rfl dX7_hasPushesAlone_56 ?_
          exact ⟨rfl, rfl⟩
        · have eN : pshN (f + 1) (bytL g p (e - p)) = if 96 < g p then false else (match afL (bytL g p (e - p)) with | none => false | some k => pshN f ((bytL g p (e - p)).drop k)) := by
            rw [pshN, if_neg (fun h => by have := (bytL_nil_iff g p (e - p)).mp h; omega), bytL_head g (by omega)]
          rw [eN]
          refine ks_aload_n dX7_hasPushesAlone_20 rfl rfl ?_
          refine ks_iload_n dX7_hasPushesAlone_21 rfl rfl ?_
          refine ks_baldB (i := p) hy rfl (by omega) (by omega) dX7_hasPushesAlone_22 rfl ?_
          refine ks_sipush (x := nI 255) dX7_hasPushesAlone_23 (by decide) rfl ?_
          refine ks_andB (hg _) dX7_hasPushesAlone_26 rfl ?_
          have hy26 : g p < 256 := (hg _)
          refine ks_bipush (x := nI 96) dX7_hasPushesAlone_27 (by decide) rfl ?_
          refine ks_icmp_leN (tgt := 34) (by omega) (by decide) dX7_hasPushesAlone_29 (by decide) rfl (fun h4 => ?_) (fun h4 => ?_)
          · rw [if_neg (by omega)]
            refine ks_aload_n dX7_hasPushesAlone_34 rfl rfl ?_
            refine ks_iload_n dX7_hasPushesAlone_35 rfl rfl ?_
            refine ks_iload_n dX7_hasPushesAlone_36 rfl rfl ?_
            refine ks_callS (n := 3) (M' := mX7_after) (c_after (d := d) hy hg hN he (by omega)) kx_1331 kx_1332 kx_24 kx_1333 (by decide +kernel) rfl (by decide) (Nat.le_of_ble_eq_true rfl) rfl dX7_hasPushesAlone_37 rfl (fun r1 S1 h1 => ?_)
            obtain ⟨rfl, hS1⟩ := h1
            obtain rfl := hS1.symm
            rcases aftI_cases g p e with ⟨a1, a2⟩ | ⟨k, a1, a2, a3, a4, a5⟩
            · rw [a1, a2]
              show ks_X l G mX7_hasPushesAlone (d + 2) 40 _ _ S (fun z S' => z = some (.int (ks_bo (false))) ∧ S' = S)
              refine ks_istore_n dX7_hasPushesAlone_40 (by decide) rfl ?_
              refine ks_sub [(3, _), (0, _), (2, _), (4, _)] rfl ?_
              refine ks_incN (c := 1) (e := i + 1) dX7_hasPushesAlone_41 rfl (by decide) rfl (by decide) rfl ?_
              refine ks_sub [(4, _), (0, _), (2, _), (3, _)] rfl ?_
              refine ks_goto (tgt := 5) dX7_hasPushesAlone_44 (by decide) ?_
              refine ks_iload dX7_hasPushesAlone_5 rfl rfl ?_
              refine ks_iload_n dX7_hasPushesAlone_7 rfl rfl ?_
              refine ks_icmp_geN (tgt := 47) (by omega) (by omega) dX7_hasPushesAlone_8 (by decide) rfl (fun g1 => ?_) (fun g1 => ?_)
              · refine ks_iload_n dX7_hasPushesAlone_47 rfl rfl ?_
                refine ks_if_lt (tgt := 55) dX7_hasPushesAlone_48 (by decide) rfl (fun g3 => ?_) (fun g3 => ?_)
                · refine ks_iconst (x := nI 0) dX7_hasPushesAlone_55 (by decide) rfl ?_
                  refine ks_zret rfl rfl dX7_hasPushesAlone_56 ?_
                  exact ⟨rfl, rfl⟩
                · exact absurd (show ((-1 : Int32) < 0) by decide) (by first | exact g3 | exact Int32.not_lt.mpr g3)
              · refine ks_iload_n dX7_hasPushesAlone_11 rfl rfl ?_
                refine ks_if_lt (tgt := 47) dX7_hasPushesAlone_12 (by decide) rfl (fun g2 => ?_) (fun g2 => ?_)
                · refine ks_iload_n dX7_hasPushesAlone_47 rfl rfl ?_
                  refine ks_if_lt (tgt := 55) dX7_hasPushesAlone_48 (by decide) rfl (fun g3 => ?_) (fun g3 => ?_)
                  · refine ks_iconst (x := nI 0) dX7_hasPushesAlone_55 (by decide) rfl ?_
                    refine ks_zret rfl rfl dX7_hasPushesAlone_56 ?_
                    exact ⟨rfl, rfl⟩
                  · exact absurd (show ((-1 : Int32) < 0) by decide) (by first | exact g3 | exact Int32.not_lt.mpr g3)
                · exact absurd (show ((-1 : Int32) < 0) by decide) (by first | exact g2 | exact Int32.not_lt.mpr g2)
            · rw [a1, a2]
              show ks_X l G mX7_hasPushesAlone (d + 2) 40 _ _ S (fun z S' => z = some (.int (ks_bo (pshN f ((bytL g p (e - p)).drop k)))) ∧ S' = S)
              refine ks_istore_n dX7_hasPushesAlone_40 (by decide) rfl ?_
              refine ks_sub [(3, _), (0, _), (2, _), (4, _)] rfl ?_
              refine ks_incN (c := 1) (e := i + 1) dX7_hasPushesAlone_41 rfl (by decide) rfl (by decide) rfl ?_
              refine ks_sub [(4, _), (0, _), (2, _), (3, _)] rfl ?_
              refine ks_goto (tgt := 5) dX7_hasPushesAlone_44 (by decide) ?_
              rw [bytL_drop _ _ a4, show e - p - k = e - (p + k) by omega]
              exact ks_sub [(0, _), (2, _), (3, _), (4, _)] rfl (ih (p + k) (i + 1) (by omega) (by omega) (by omega) (by omega))
          · rw [if_pos (by omega)]
            refine ks_iconst (x := nI 0) dX7_hasPushesAlone_32 (by decide) rfl ?_
            refine ks_zret rfl rfl dX7_hasPushesAlone_33 ?_
            exact ⟨rfl, rfl⟩
  refine ks_of (by decide) rfl rfl (Nat.le_of_ble_eq_true rfl) ?_
  show ks_X l G mX7_hasPushesAlone (d + 2) 0 [(0, .ref y), (1, .int (nI s)), (2, .int (nI e))] [] S _
  refine ks_iload_n dX7_hasPushesAlone_0 rfl rfl ?_
  refine ks_istore_n dX7_hasPushesAlone_1 (by decide) rfl ?_
  refine ks_sub [(3, _), (0, _), (1, _), (2, _)] rfl ?_
  refine ks_iload_n dX7_hasPushesAlone_2 rfl rfl ?_
  refine ks_istore dX7_hasPushesAlone_3 (by decide) rfl ?_
  refine ks_sub [(4, _), (0, _), (1, _), (2, _), (3, _)] rfl ?_
  unfold psh_
  rw [bytL_len]
  exact ks_sub [(0, _), (2, _), (3, _), (4, _)] rfl (loop (e - s) s s (Nat.le_refl _) (Nat.le_refl _) (Nat.le_refl _) hs)
