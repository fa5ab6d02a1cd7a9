/-! DRAFTTX: addPush, write -/
def pushH (n : Nat) : List Nat := if n < 76 then [n] else if n < 256 then [76, n] else [77, n % 256, n / 256 % 256]
def pushL (c : List Nat) : List Nat := pushH c.length ++ c
def dPush : List dIn → Nat → List Nat → List dIn
  | [], _, _ => []
  | x :: l, 0, p => (x.1, x.2.1, x.2.2.1 ++ p, x.2.2.2) :: l
  | x :: l, i + 1, p => x :: dPush l i p
theorem dPush_at (p : List Nat) : ∀ (l : List dIn) (i j : Nat), (dPush l i p)[j]? = if j = i then (l[j]?).map (fun x => (x.1, x.2.1, x.2.2.1 ++ p, x.2.2.2)) else l[j]?
  | [], i, j => by simp [dPush]
  | x :: l, 0, 0 => by simp [dPush]
  | x :: l, 0, j + 1 => by simp [dPush]
  | x :: l, i + 1, 0 => by simp [dPush]
  | x :: l, i + 1, j + 1 => by
    show (dPush l i p)[j]? = _
    rw [dPush_at p l i j]
    simp
theorem dxI_push {k i n : Nat} {id gs sz : Nat → Nat} {ix : Nat → Int32} {sq : Nat → Int64} {sc : Nat → Nat → Nat} {p : List Nat} (hgs : bytL gs 0 n = bytL (sc i) 0 (sz i) ++ p) : (List.range k).map (dxI id ix (va_up sc i gs) (va_up sz i n) sq) = dPush ((List.range k).map (dxI id ix sc sz sq)) i p := by
  apply List.ext_getElem?
  intro j
  rw [dPush_at]
  by_cases h : j < k
  · rw [List.getElem?_map, List.getElem?_map, List.getElem?_range h]
    by_cases e : j = i
    · subst e
      rw [if_pos rfl]
      simp only [Option.map_some, dxI, va_up_self, hgs]
    · rw [if_neg e]
      simp only [Option.map_some, dxI, va_up_ne _ _ e]
  · have e1 : (List.range k)[j]? = none := by simp; omega
    rw [List.getElem?_map, List.getElem?_map, e1]
    split <;> rfl
theorem bytL_app (f : Nat → Nat) (i a b : Nat) : bytL f i (a + b) = bytL f i a ++ bytL f (i + a) b := by
  unfold bytL
  rw [List.range_add, List.map_append, List.map_map]
  congr 1
  apply List.map_congr_left
  intro k _
  show f (i + (a + k)) = f (i + a + k)
  rw [Nat.add_assoc]
theorem bytL_1 (f : Nat → Nat) (i : Nat) : bytL f i 1 = [f i] := by simp [bytL, List.range_succ]
theorem bfO_byt {c : List Nat} {len : Nat} {g : Nat → Nat} (h : bfO (some c) len g) : bytL g 0 c.length = c := by
  apply List.ext_getElem
  · rw [bytL_len]
  · intro j h1 h2
    rw [bytL_len] at h1
    have e1 := bytL_at g 0 c.length h1
    rw [Nat.zero_add, h.2 j (by rw [← h.1]; exact h1)] at e1
    simpa [List.getD, h1, bytL_len] using e1
theorem catL_s {α : Type} (f : α → List Nat) (h : Nat → α) (i : Nat) : catL f ((List.range (i + 1)).map h) = catL f ((List.range i).map h) ++ f (h i) := by
  unfold catL
  rw [List.range_succ, List.map_append, List.map_append, List.flatten_append]
  simp
theorem catL_mono {α : Type} (f : α → List Nat) (h : Nat → α) : ∀ {i k : Nat}, i ≤ k → (catL f ((List.range i).map h)).length ≤ (catL f ((List.range k).map h)).length
  | i, 0, hk => by obtain rfl : i = 0 := by omega
                   exact Nat.le_refl _
  | i, k + 1, hk => by
    rcases Nat.lt_or_eq_of_le hk with h1 | h1
    · rw [catL_s, List.length_append]
      have := catL_mono f h (i := i) (k := k) (by omega)
      omega
    · subst h1; exact Nat.le_refl _
set_option maxRecDepth 100000 in
set_option maxHeartbeats 2000000 in
theorem c_addPush {l : Launch} {G : ks_G} {d : Nat} {S : ks_S} {b : Nat} {D : dTx} (h : dx_ok S b D) {wb wa N : Nat} {c : List Nat} (hw : bfS S wb wa N (some c)) (hwb : wb < b ∧ wa < b) (hN : N < 2 ^ 20) {i : Nat} {x : dIn} (hx : D.2.2.1[i]? = some x) (hc : x.2.2.1.length + psz c.length ≤ 600) : ks_P l G yX4_addPush mX4_addPush (d + 1) [.ref b, .int (nI i), .ref wb] S (fun z S' => z = none ∧ ks_up S S' (dxL b) ∧ dx_ok S' b (D.1, D.2.1, dPush D.2.2.1 i (pushL c), D.2.2.2)) := by
  obtain ⟨k, m, sz, id, ix, sq, vl, sc, hD, e1, e2⟩ := h
  obtain ⟨ve, lo, il, ol⟩ := D
  simp only at hD e1 e2 hx ⊢
  subst e1 e2
  have k6 := hD.2.2.2.2.2.2.2.2.2.2.1
  have hik : i < k := by
    apply Nat.lt_of_not_le
    intro hle
    have e3 : (List.range k)[i]? = none := by simp; exact hle
    rw [List.getElem?_map, e3] at hx
    cases hx
  rw [List.getElem?_map, List.getElem?_range hik] at hx
  obtain rfl := Option.some.inj hx
  rw [show (dxI id ix sc sz sq i).2.2.1.length = sz i from bytL_len _ _ _] at hc
  obtain ⟨len, g, c1, c2, c3, c4, c5, c6⟩ := hw
  subst c5
  have hcl := bfO_byt (c := c) ⟨rfl, c6⟩
  have hps : c.length + 1 ≤ psz c.length := by unfold psz; split; omega; split <;> omega
  have fin : ∀ (S1 : ks_S) (gs : Nat → Nat), ks_up S S1 (dxL b) → S1.2.2 b = S.2.2 b → S1.2.2 (b + 1) = some (kN 12 (va_up sz i (sz i + psz c.length))) → (∀ a, a ≠ b + 1 → a ≠ b + 7 + i → S1.2.2 a = S.2.2 a) → S1.2.2 (b + 7 + i) = some (kB 600 gs) → kO gs → bytL gs 0 (sz i + psz c.length) = bytL (sc i) 0 (sz i) ++ pushL c → dx_ok S1 b (ve, lo, dPush ((List.range k).map (dxI id ix sc sz sq)) i (pushL c), (List.range m).map (dxO vl sc sz)) := by
    intro S1 gs a1 a0 a2 a3 a4 a5 a6
    refine ⟨k, m, va_up sz i (sz i + psz c.length), id, ix, sq, vl, va_up sc i gs, ⟨a0.trans hD.1, a2, (a3 _ (by omega) (by omega)).trans hD.2.2.1, (a3 _ (by omega) (by omega)).trans hD.2.2.2.1, (a3 _ (by omega) (by omega)).trans hD.2.2.2.2.1, (a3 _ (by omega) (by omega)).trans hD.2.2.2.2.2.1, (a3 _ (by omega) (by omega)).trans hD.2.2.2.2.2.2.1, ?_, hD.2.2.2.2.2.2.2.2.1, ?_, k6, hD.2.2.2.2.2.2.2.2.2.2.2.1, ?_, ?_, hD.2.2.2.2.2.2.2.2.2.2.2.2.2.2⟩, (dxI_push a6).symm, (dxO_same (by omega) m).symm⟩
    · intro j hj
      by_cases e : j = i
      · subst e; rw [va_up_self]; exact a4
      · rw [va_up_ne _ _ e]; exact (a3 _ (by omega) (by omega)).trans (hD.2.2.2.2.2.2.2.1 j hj)
    · intro j
      by_cases e : j = i
      · subst e; rw [va_up_self]; exact a5
      · rw [va_up_ne _ _ e]; exact hD.2.2.2.2.2.2.2.2.2.1 j
    · intro j hj
      by_cases e : j = i
      · subst e; rw [va_up_self]; exact hc
      · rw [va_up_ne _ _ e]; exact hD.2.2.2.2.2.2.2.2.2.2.2.2.1 j hj
    · intro j hj
      rw [va_up_ne _ _ (by omega)]; exact hD.2.2.2.2.2.2.2.2.2.2.2.2.2.1 j hj
  refine ks_of (by decide) rfl rfl (Nat.le_of_ble_eq_true rfl) ?_
  show ks_X l G mX4_addPush (d + 1) 0 [(0, .ref b), (1, .int (nI i)), (2, .ref wb)] [] S _
  refine ks_aload_n dX4_addPush_0 rfl rfl ?_
  refine ks_getf (T := TX4) (kf := 9) kx_798 rfl in_X4 cl_X4 (by decide) hD.1 rfl dX4_addPush_1 rfl ?_
  refine ks_iload_n dX4_addPush_4 rfl rfl ?_
  refine ks_aaldN (i := i) (b := b + 7 + i) (by decide) hD.2.2.2.2.2.2.1 rfl (by omega) (by decide) (if_pos (by omega)) dX4_addPush_5 rfl ?_
  refine ks_astore_n dX4_addPush_6 (by decide) rfl ?_
  refine ks_sub [(3, _), (0, _), (1, _), (2, _)] rfl ?_
  refine ks_aload_n dX4_addPush_7 rfl rfl ?_
  refine ks_getf (T := TX4) (kf := 2) kx_790 rfl in_X4 cl_X4 (by decide) hD.1 rfl dX4_addPush_8 rfl ?_
  refine ks_iload_n dX4_addPush_11 rfl rfl ?_
  refine ks_ialdN (i := i) hD.2.1 rfl (by omega) (by decide) dX4_addPush_12 rfl ?_
  refine ks_istore dX4_addPush_13 (by decide) rfl ?_
  refine ks_sub [(4, _), (0, _), (1, _), (2, _), (3, _)] rfl ?_
  refine ks_aload_n dX4_addPush_15 rfl rfl ?_
  refine ks_getf (T := TX1) (kf := 1) kx_62 rfl in_X1 cl_X1 (by decide) c4 rfl dX4_addPush_16 rfl ?_
  refine ks_istore dX4_addPush_19 (by decide) rfl ?_
  refine ks_sub [(5, _), (0, _), (1, _), (2, _), (3, _), (4, _)] rfl ?_
  refine ks_iload dX4_addPush_21 rfl rfl ?_
  refine ks_bipush (x := nI 76) dX4_addPush_23 (by decide) rfl ?_
  refine ks_icmp_geN (tgt := 38) (by omega) (by decide) dX4_addPush_25 (by decide) rfl (fun hc25 => ?_) (fun hc25 => ?_)
  · refine ks_iload dX4_addPush_38 rfl rfl ?_
    refine ks_sipush (x := nI 256) dX4_addPush_40 (by decide) rfl ?_
    refine ks_icmp_geN (tgt := 64) (by omega) (by decide) dX4_addPush_43 (by decide) rfl (fun hc43 => ?_) (fun hc43 => ?_)
    · refine ks_aload_n dX4_addPush_64 rfl rfl ?_
      refine ks_iload dX4_addPush_65 rfl rfl ?_
      refine ks_bipush (x := nI 77) dX4_addPush_67 (by decide) rfl ?_
      refine ks_bastB (i := sz i) (c := 77) (hD.2.2.2.2.2.2.2.1 i (by omega)) rfl (by omega) (by decide) (ks_by_nI _) dX4_addPush_69 rfl ?_
      refine ks_aload_n dX4_addPush_70 rfl rfl ?_
      refine ks_iload dX4_addPush_71 rfl rfl ?_
      refine ks_iconst (x := nI 1) dX4_addPush_73 (by decide) rfl ?_
      refine ks_addN dX4_addPush_74 rfl ?_
      refine ks_iload dX4_addPush_75 rfl rfl ?_
      refine ks_i2b dX4_addPush_77 rfl ?_
      refine ks_bastB (i := sz i + 1) (c := c.length % 256) (ks_set_same _ _ _) rfl (by omega) (by decide) ((ks_by_i8 _).trans (ks_by_nI _)) dX4_addPush_78 rfl ?_
      refine ks_aload_n dX4_addPush_79 rfl rfl ?_
      refine ks_iload dX4_addPush_80 rfl rfl ?_
      refine ks_iconst (x := nI 2) dX4_addPush_82 (by decide) rfl ?_
      refine ks_addN dX4_addPush_83 rfl ?_
      refine ks_iload dX4_addPush_84 rfl rfl ?_
      refine ks_bipush (x := nI 8) dX4_addPush_86 (by decide) rfl ?_
      refine ks_ushrN (k := 8) (by decide) (by omega) dX4_addPush_88 rfl ?_
      refine ks_i2b dX4_addPush_89 rfl ?_
      refine ks_bastB (i := sz i + 2) (c := (c.length / 2 ^ 8) % 256) (ks_set_same _ _ _) rfl (by omega) (by decide) ((ks_by_i8 _).trans (ks_by_nI _)) dX4_addPush_90 rfl ?_
      refine ks_aload_n dX4_addPush_91 rfl rfl ?_
      refine ks_getf (T := TX4) (kf := 2) kx_790 rfl in_X4 cl_X4 (by decide) ((ks_set_ne _ _ (by omega)).trans ((ks_set_ne _ _ (by omega)).trans ((ks_set_ne _ _ (by omega)).trans hD.1))) rfl dX4_addPush_92 rfl ?_
      refine ks_iload_n dX4_addPush_95 rfl rfl ?_
      refine ks_dup2_11 dX4_addPush_96 rfl rfl rfl ?_
      refine ks_ialdN (i := i) ((ks_set_ne _ _ (Ne.symm (by omega))).trans ((ks_set_ne _ _ (Ne.symm (by omega))).trans ((ks_set_ne _ _ (Ne.symm (by omega))).trans hD.2.1))) rfl (by omega) (by decide) dX4_addPush_97 rfl ?_
      refine ks_iload dX4_addPush_98 rfl rfl ?_
      refine ks_callS (n := 1) (M' := mX4_pushSize) (c_pushSize (d := d) (n := c.length) (by omega)) kx_1317 kx_1311 kx_28 kx_1312 (by decide +kernel) rfl (by decide) (Nat.le_of_ble_eq_true rfl) rfl dX4_addPush_100 rfl (fun r1 S1 h1 => ?_)
      obtain ⟨rfl, rfl⟩ := h1
      refine ks_addN dX4_addPush_103 rfl ?_
      refine ks_iastNN (i := i) (v := sz i + (psz c.length)) (by have := hD.2.2.2.2.2.2.2.2.2.2.2.2.2.2; omega) ((ks_set_ne _ _ (Ne.symm (by omega))).trans ((ks_set_ne _ _ (Ne.symm (by omega))).trans ((ks_set_ne _ _ (Ne.symm (by omega))).trans hD.2.1))) (by omega) (by decide) dX4_addPush_104 rfl ?_
      refine ks_aload_n dX4_addPush_105 rfl rfl ?_
      refine ks_getf (T := TX1) (kf := 0) kx_55 rfl in_X1 cl_X1 (by decide) ((ks_set_ne _ _ (by omega)).trans ((ks_set_ne _ _ (by omega)).trans ((ks_set_ne _ _ (by omega)).trans ((ks_set_ne _ _ (by omega)).trans c4)))) rfl dX4_addPush_106 rfl ?_
      refine ks_iconst (x := nI 0) dX4_addPush_109 (by decide) rfl ?_
      refine ks_aload_n dX4_addPush_110 rfl rfl ?_
      refine ks_aload_n dX4_addPush_111 rfl rfl ?_
      refine ks_getf (T := TX4) (kf := 2) kx_790 rfl in_X4 cl_X4 (by decide) ((ks_set_ne _ _ (by omega)).trans ((ks_set_ne _ _ (by omega)).trans ((ks_set_ne _ _ (by omega)).trans ((ks_set_ne _ _ (by omega)).trans hD.1)))) rfl dX4_addPush_112 rfl ?_
      refine ks_iload_n dX4_addPush_115 rfl rfl ?_
      refine ks_ialdN (i := i) (ks_set_same _ _ _) rfl (by omega) (by decide) dX4_addPush_116 rfl ?_
      refine ks_ti (congrArg nI (va_up_self _ _ _)) ?_
      refine ks_iload dX4_addPush_117 rfl rfl ?_
      refine ks_subN (by omega) dX4_addPush_119 rfl ?_
      refine ks_iload dX4_addPush_120 rfl rfl ?_
      refine ks_copyB (n := c.length) (dp := sz i + (psz c.length) - c.length) (sp := 0) ((ks_set_ne _ _ (by omega)).trans ((ks_set_ne _ _ (by omega)).trans ((ks_set_ne _ _ (by omega)).trans ((ks_set_ne _ _ (by omega)).trans c3)))) ((ks_set_ne _ _ (by omega)).trans (ks_set_same _ _ _)) rfl rfl rfl (by omega) (by omega) (by omega) (by decide) kx_837 kx_275 kx_274 kx_17 (by omega) (Nat.le_of_ble_eq_true rfl) dX4_addPush_122 rfl ?_
      refine ks_ret rfl dX4_addPush_125 ?_
      refine ⟨rfl, ((((ks_up_set _ _ (by rw [dxL_mem]; omega)).trans (ks_up_set _ _ (by rw [dxL_mem]; omega))).trans (ks_up_set _ _ (by rw [dxL_mem]; omega))).trans (ks_up_set _ _ (by rw [dxL_mem]; omega))).trans (ks_up_set _ _ (by rw [dxL_mem]; omega)), fin _ _ (((((ks_up_set _ _ (by rw [dxL_mem]; omega)).trans (ks_up_set _ _ (by rw [dxL_mem]; omega))).trans (ks_up_set _ _ (by rw [dxL_mem]; omega))).trans (ks_up_set _ _ (by rw [dxL_mem]; omega))).trans (ks_up_set _ _ (by rw [dxL_mem]; omega))) ?_ ((ks_set_ne _ _ (Ne.symm (by omega))).trans (ks_set_same _ _ _)) ?_ (ks_set_same _ _ _) ?_ ?_⟩
      · exact ((ks_set_ne _ _ (by omega)).trans ((ks_set_ne _ _ (by omega)).trans ((ks_set_ne _ _ (by omega)).trans ((ks_set_ne _ _ (by omega)).trans ((ks_set_ne _ _ (by omega)).trans rfl)))))
      · intro a h1 h2
        exact ((ks_set_ne _ _ h2).trans ((ks_set_ne _ _ h1).trans ((ks_set_ne _ _ h2).trans ((ks_set_ne _ _ h2).trans ((ks_set_ne _ _ h2).trans rfl)))))
      · exact kO_cpy c1 (kO_up (kO_up (kO_up (hD.2.2.2.2.2.2.2.2.2.1 i) (by omega)) (by omega)) (by omega)) _ _ _
      · have ep : psz c.length = 3 + c.length := by unfold psz; rw [if_neg (by omega), if_neg (by omega)]; omega
        have eh : pushL c = [77, c.length % 256, c.length / 256 % 256] ++ c := by unfold pushL pushH; rw [if_neg (by omega), if_neg (by omega)]
        rw [eh, ep, bytL_app, bytL_app, Nat.zero_add]
        congr 1
        · exact bytL_congr (fun j hj => by rw [pk_cpy_out (by omega), va_up_ne _ _ (by omega), va_up_ne _ _ (by omega), va_up_ne _ _ (by omega)])
        · congr 1
          · rw [show 3 = 1 + (1 + 1) from rfl, bytL_app, bytL_app, bytL_1, bytL_1, bytL_1, pk_cpy_out (by omega), pk_cpy_out (by omega), pk_cpy_out (by omega), va_up_ne _ _ (by omega), va_up_ne _ _ (by omega), va_up_self, va_up_ne _ _ (by omega), va_up_self, va_up_self]; rfl
          · refine Eq.trans (bytL_congr (fun j hj => ?_)) hcl
            rw [pk_cpy_in (by omega) (by omega)]
            congr 1
            omega
    · refine ks_aload_n dX4_addPush_46 rfl rfl ?_
      refine ks_iload dX4_addPush_47 rfl rfl ?_
      refine ks_bipush (x := nI 76) dX4_addPush_49 (by decide) rfl ?_
      refine ks_bastB (i := sz i) (c := 76) (hD.2.2.2.2.2.2.2.1 i (by omega)) rfl (by omega) (by decide) (ks_by_nI _) dX4_addPush_51 rfl ?_
      refine ks_aload_n dX4_addPush_52 rfl rfl ?_
      refine ks_iload dX4_addPush_53 rfl rfl ?_
      refine ks_iconst (x := nI 1) dX4_addPush_55 (by decide) rfl ?_
      refine ks_addN dX4_addPush_56 rfl ?_
      refine ks_iload dX4_addPush_57 rfl rfl ?_
      refine ks_i2b dX4_addPush_59 rfl ?_
      refine ks_bastB (i := sz i + 1) (c := c.length % 256) (ks_set_same _ _ _) rfl (by omega) (by decide) ((ks_by_i8 _).trans (ks_by_nI _)) dX4_addPush_60 rfl ?_
      refine ks_goto (tgt := 91) dX4_addPush_61 (by decide) ?_
      refine ks_aload_n dX4_addPush_91 rfl rfl ?_
      refine ks_getf (T := TX4) (kf := 2) kx_790 rfl in_X4 cl_X4 (by decide) ((ks_set_ne _ _ (by omega)).trans ((ks_set_ne _ _ (by omega)).trans hD.1)) rfl dX4_addPush_92 rfl ?_
      refine ks_iload_n dX4_addPush_95 rfl rfl ?_
      refine ks_dup2_11 dX4_addPush_96 rfl rfl rfl ?_
      refine ks_ialdN (i := i) ((ks_set_ne _ _ (Ne.symm (by omega))).trans ((ks_set_ne _ _ (Ne.symm (by omega))).trans hD.2.1)) rfl (by omega) (by decide) dX4_addPush_97 rfl ?_
      refine ks_iload dX4_addPush_98 rfl rfl ?_
      refine ks_callS (n := 1) (M' := mX4_pushSize) (c_pushSize (d := d) (n := c.length) (by omega)) kx_1317 kx_1311 kx_28 kx_1312 (by decide +kernel) rfl (by decide) (Nat.le_of_ble_eq_true rfl) rfl dX4_addPush_100 rfl (fun r1 S1 h1 => ?_)
      obtain ⟨rfl, rfl⟩ := h1
      refine ks_addN dX4_addPush_103 rfl ?_
      refine ks_iastNN (i := i) (v := sz i + (psz c.length)) (by have := hD.2.2.2.2.2.2.2.2.2.2.2.2.2.2; omega) ((ks_set_ne _ _ (Ne.symm (by omega))).trans ((ks_set_ne _ _ (Ne.symm (by omega))).trans hD.2.1)) (by omega) (by decide) dX4_addPush_104 rfl ?_
      refine ks_aload_n dX4_addPush_105 rfl rfl ?_
      refine ks_getf (T := TX1) (kf := 0) kx_55 rfl in_X1 cl_X1 (by decide) ((ks_set_ne _ _ (by omega)).trans ((ks_set_ne _ _ (by omega)).trans ((ks_set_ne _ _ (by omega)).trans c4))) rfl dX4_addPush_106 rfl ?_
      refine ks_iconst (x := nI 0) dX4_addPush_109 (by decide) rfl ?_
      refine ks_aload_n dX4_addPush_110 rfl rfl ?_
      refine ks_aload_n dX4_addPush_111 rfl rfl ?_
      refine ks_getf (T := TX4) (kf := 2) kx_790 rfl in_X4 cl_X4 (by decide) ((ks_set_ne _ _ (by omega)).trans ((ks_set_ne _ _ (by omega)).trans ((ks_set_ne _ _ (by omega)).trans hD.1))) rfl dX4_addPush_112 rfl ?_
      refine ks_iload_n dX4_addPush_115 rfl rfl ?_
      refine ks_ialdN (i := i) (ks_set_same _ _ _) rfl (by omega) (by decide) dX4_addPush_116 rfl ?_
      refine ks_ti (congrArg nI (va_up_self _ _ _)) ?_
      refine ks_iload dX4_addPush_117 rfl rfl ?_
      refine ks_subN (by omega) dX4_addPush_119 rfl ?_
      refine ks_iload dX4_addPush_120 rfl rfl ?_
      refine ks_copyB (n := c.length) (dp := sz i + (psz c.length) - c.length) (sp := 0) ((ks_set_ne _ _ (by omega)).trans ((ks_set_ne _ _ (by omega)).trans ((ks_set_ne _ _ (by omega)).trans c3))) ((ks_set_ne _ _ (by omega)).trans (ks_set_same _ _ _)) rfl rfl rfl (by omega) (by omega) (by omega) (by decide) kx_837 kx_275 kx_274 kx_17 (by omega) (Nat.le_of_ble_eq_true rfl) dX4_addPush_122 rfl ?_
      refine ks_ret rfl dX4_addPush_125 ?_
      refine ⟨rfl, (((ks_up_set _ _ (by rw [dxL_mem]; omega)).trans (ks_up_set _ _ (by rw [dxL_mem]; omega))).trans (ks_up_set _ _ (by rw [dxL_mem]; omega))).trans (ks_up_set _ _ (by rw [dxL_mem]; omega)), fin _ _ ((((ks_up_set _ _ (by rw [dxL_mem]; omega)).trans (ks_up_set _ _ (by rw [dxL_mem]; omega))).trans (ks_up_set _ _ (by rw [dxL_mem]; omega))).trans (ks_up_set _ _ (by rw [dxL_mem]; omega))) ?_ ((ks_set_ne _ _ (Ne.symm (by omega))).trans (ks_set_same _ _ _)) ?_ (ks_set_same _ _ _) ?_ ?_⟩
      · exact ((ks_set_ne _ _ (by omega)).trans ((ks_set_ne _ _ (by omega)).trans ((ks_set_ne _ _ (by omega)).trans ((ks_set_ne _ _ (by omega)).trans rfl))))
      · intro a h1 h2
        exact ((ks_set_ne _ _ h2).trans ((ks_set_ne _ _ h1).trans ((ks_set_ne _ _ h2).trans ((ks_set_ne _ _ h2).trans rfl))))
      · exact kO_cpy c1 (kO_up (kO_up (hD.2.2.2.2.2.2.2.2.2.1 i) (by omega)) (by omega)) _ _ _
      · have ep : psz c.length = 2 + c.length := by unfold psz; rw [if_neg (by omega), if_pos (by omega)]; omega
        have eh : pushL c = [76, c.length] ++ c := by unfold pushL pushH; rw [if_neg (by omega), if_pos (by omega)]
        rw [eh, ep, bytL_app, bytL_app, Nat.zero_add]
        congr 1
        · exact bytL_congr (fun j hj => by rw [pk_cpy_out (by omega), va_up_ne _ _ (by omega), va_up_ne _ _ (by omega)])
        · congr 1
          · show bytL _ (sz i) (1 + 1) = _; rw [bytL_app, bytL_1, bytL_1, pk_cpy_out (by omega), pk_cpy_out (by omega), va_up_ne _ _ (by omega), va_up_self, va_up_self, Nat.mod_eq_of_lt (by omega)]; rfl
          · refine Eq.trans (bytL_congr (fun j hj => ?_)) hcl
            rw [pk_cpy_in (by omega) (by omega)]
            congr 1
            omega
  · refine ks_aload_n dX4_addPush_28 rfl rfl ?_
    refine ks_iload dX4_addPush_29 rfl rfl ?_
    refine ks_iload dX4_addPush_31 rfl rfl ?_
    refine ks_i2b dX4_addPush_33 rfl ?_
    refine ks_bastB (i := sz i) (c := c.length % 256) (hD.2.2.2.2.2.2.2.1 i (by omega)) rfl (by omega) (by decide) ((ks_by_i8 _).trans (ks_by_nI _)) dX4_addPush_34 rfl ?_
    refine ks_goto (tgt := 91) dX4_addPush_35 (by decide) ?_
    refine ks_aload_n dX4_addPush_91 rfl rfl ?_
    refine ks_getf (T := TX4) (kf := 2) kx_790 rfl in_X4 cl_X4 (by decide) ((ks_set_ne _ _ (by omega)).trans hD.1) rfl dX4_addPush_92 rfl ?_
    refine ks_iload_n dX4_addPush_95 rfl rfl ?_
    refine ks_dup2_11 dX4_addPush_96 rfl rfl rfl ?_
    refine ks_ialdN (i := i) ((ks_set_ne _ _ (Ne.symm (by omega))).trans hD.2.1) rfl (by omega) (by decide) dX4_addPush_97 rfl ?_
    refine ks_iload dX4_addPush_98 rfl rfl ?_
    refine ks_callS (n := 1) (M' := mX4_pushSize) (c_pushSize (d := d) (n := c.length) (by omega)) kx_1317 kx_1311 kx_28 kx_1312 (by decide +kernel) rfl (by decide) (Nat.le_of_ble_eq_true rfl) rfl dX4_addPush_100 rfl (fun r1 S1 h1 => ?_)
    obtain ⟨rfl, rfl⟩ := h1
    refine ks_addN dX4_addPush_103 rfl ?_
    refine ks_iastNN (i := i) (v := sz i + (psz c.length)) (by have := hD.2.2.2.2.2.2.2.2.2.2.2.2.2.2; omega) ((ks_set_ne _ _ (Ne.symm (by omega))).trans hD.2.1) (by omega) (by decide) dX4_addPush_104 rfl ?_
    refine ks_aload_n dX4_addPush_105 rfl rfl ?_
    refine ks_getf (T := TX1) (kf := 0) kx_55 rfl in_X1 cl_X1 (by decide) ((ks_set_ne _ _ (by omega)).trans ((ks_set_ne _ _ (by omega)).trans c4)) rfl dX4_addPush_106 rfl ?_
    refine ks_iconst (x := nI 0) dX4_addPush_109 (by decide) rfl ?_
    refine ks_aload_n dX4_addPush_110 rfl rfl ?_
    refine ks_aload_n dX4_addPush_111 rfl rfl ?_
    refine ks_getf (T := TX4) (kf := 2) kx_790 rfl in_X4 cl_X4 (by decide) ((ks_set_ne _ _ (by omega)).trans ((ks_set_ne _ _ (by omega)).trans hD.1)) rfl dX4_addPush_112 rfl ?_
    refine ks_iload_n dX4_addPush_115 rfl rfl ?_
    refine ks_ialdN (i := i) (ks_set_same _ _ _) rfl (by omega) (by decide) dX4_addPush_116 rfl ?_
    refine ks_ti (congrArg nI (va_up_self _ _ _)) ?_
    refine ks_iload dX4_addPush_117 rfl rfl ?_
    refine ks_subN (by omega) dX4_addPush_119 rfl ?_
    refine ks_iload dX4_addPush_120 rfl rfl ?_
    refine ks_copyB (n := c.length) (dp := sz i + (psz c.length) - c.length) (sp := 0) ((ks_set_ne _ _ (by omega)).trans ((ks_set_ne _ _ (by omega)).trans c3)) ((ks_set_ne _ _ (by omega)).trans (ks_set_same _ _ _)) rfl rfl rfl (by omega) (by omega) (by omega) (by decide) kx_837 kx_275 kx_274 kx_17 (by omega) (Nat.le_of_ble_eq_true rfl) dX4_addPush_122 rfl ?_
    refine ks_ret rfl dX4_addPush_125 ?_
    refine ⟨rfl, ((ks_up_set _ _ (by rw [dxL_mem]; omega)).trans (ks_up_set _ _ (by rw [dxL_mem]; omega))).trans (ks_up_set _ _ (by rw [dxL_mem]; omega)), fin _ _ (((ks_up_set _ _ (by rw [dxL_mem]; omega)).trans (ks_up_set _ _ (by rw [dxL_mem]; omega))).trans (ks_up_set _ _ (by rw [dxL_mem]; omega))) ?_ ((ks_set_ne _ _ (Ne.symm (by omega))).trans (ks_set_same _ _ _)) ?_ (ks_set_same _ _ _) ?_ ?_⟩
    · exact ((ks_set_ne _ _ (by omega)).trans ((ks_set_ne _ _ (by omega)).trans ((ks_set_ne _ _ (by omega)).trans rfl)))
    · intro a h1 h2
      exact ((ks_set_ne _ _ h2).trans ((ks_set_ne _ _ h1).trans ((ks_set_ne _ _ h2).trans rfl)))
    · exact kO_cpy c1 (kO_up (hD.2.2.2.2.2.2.2.2.2.1 i) (by omega)) _ _ _
    · have ep : psz c.length = 1 + c.length := by unfold psz; rw [if_pos (by omega)]; omega
      have eh : pushL c = [c.length] ++ c := by unfold pushL pushH; rw [if_pos (by omega)]
      rw [eh, ep, bytL_app, bytL_app, Nat.zero_add]
      congr 1
      · exact bytL_congr (fun j hj => by rw [pk_cpy_out (by omega), va_up_ne _ _ (by omega)])
      · congr 1
        · rw [bytL_1, pk_cpy_out (by omega), va_up_self, Nat.mod_eq_of_lt (by omega)]
        · refine Eq.trans (bytL_congr (fun j hj => ?_)) hcl
          rw [pk_cpy_in (by omega) (by omega)]
          congr 1
          omega
