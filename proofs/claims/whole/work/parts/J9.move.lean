/-! THE REFERENCE: move -/
def nedR : Nat → Nat := fun j => [1, 0, 1, 0, 2, 2, 3, 4, 6, 4, 1, 0, 1, 1, 2, 2, 2, 2, 3, 2, 2].getD j 0
theorem nedR_nd : ∀ op, op < 126 → 107 ≤ op → nedR (op - 105) = ndO op := by decide +kernel
theorem nedR_b : ∀ j, j < 21 → nedR j < 7 := by decide +kernel
theorem tuck {xs : List (List Nat)} (h : 2 ≤ xs.length) : lfS 2 (lfS 2 (cpS 0 xs)) = cpS 1 (lfS 1 xs) := by
  match xs, h with
  | a :: b :: r, _ => rfl
theorem msK.up {S S1 : ks_S} {V : Nat → Value} {F : Nat} {L : List Nat} (hO : S.2.2 290 = some (rfE V)) (hu : ks_up S S1 L) (hL : ∀ x ∈ L, x ∈ LSk) (h0 : 290 ∉ L) : msK S S1 V V F F := ⟨sfK.of (hu.mono hL), hu.at hO h0, fun _ _ _ _ => rfl⟩
theorem rsK_b {S : ks_S} {V : Nat → Value} {T : Nat → Nat → Option Nat} {sz oz vz : Nat → Nat} {xs ys : List (List Nat)} {vs : Vs} (h : rsK S V T sz oz vz xs ys vs) {k : Nat} (hk : k < xs.length) : ∀ b ∈ xs.getD k [], b < 256 := by
  obtain ⟨r, g, a1, a2, a3, a4, a5⟩ := h.2.2.2.2.1 (xs.length - 1 - k) (by omega)
  rw [show xs.length - 1 - (xs.length - 1 - k) = k by omega] at a5
  rw [a5]
  exact bytL_b a3 _ _
theorem numV_b4 {x : List Nat} (h : x.length ≤ 4) (hb : ∀ b ∈ x, b < 256) : -(2 ^ 31) < numV x ∧ numV x < 2 ^ 31 := by
  have h1 := leV_lt hb
  have hp : (2 : Nat) ^ (8 * x.length - 1) ≤ 2 ^ 31 := Nat.pow_le_pow_right (by decide) (by omega)
  have he : x.length = 0 ∨ 256 ^ x.length = 2 * 2 ^ (8 * x.length - 1) := by
    by_cases c : x.length = 0
    · exact Or.inl c
    · right
      rw [show (256 : Nat) = 2 ^ 8 from rfl, ← Nat.pow_mul, ← Nat.pow_succ']
      congr 1
      omega
  unfold numV
  generalize 2 ^ (8 * x.length - 1) = P at hp he ⊢
  rcases he with he | he
  · rw [he] at h1
    have : leV x = 0 := by omega
    rw [this]
    split <;> omega
  · rw [he] at h1
    split <;> omega
set_option maxRecDepth 100000 in
set_option maxHeartbeats 3200000 in
theorem c_rs_move {l : Launch} {G : ks_G} {d : Nat} {S : ks_S} {V : Nat → Value} {F : Nat} {xs ys : List (List Nat)} {vs : Vs} (hO : S.2.2 290 = some (rfE V)) (hK : rsQ S V F xs ys vs) {op : Nat} (hop1 : op = 105 ∨ (107 ≤ op ∧ op ≤ 125)) (hl : xs.length + ys.length ≤ 1000) (v74 : V 74 = .int (ks_bo false)) (h369 : S.2.2 369 = some (kN 21 nedR)) : ks_P l G yX16_move mX16_move (d + 3) [.ref 290, .int (nI op)] S (fun z S' => z = none ∧ opR S S' V F (if op = 105 then vfS xs ys else mvS op xs ys) vs) := by
  have hop : op < 256 := by omega
  have nb := nedR_b (op - 105) (by omega)
  refine ks_of (by decide) rfl rfl (Nat.le_of_ble_eq_true rfl) ?_
  show ks_X l G mX16_move (d + 3) 0 [(0, .ref 290), (1, .int (nI op))] [] S _
  refine ks_aload_n dX16_move_0 rfl rfl ?_
  refine ks_getf (T := TX16) (kf := 85) kx_2453 rfl in_X16 cl_X16 (by decide) hO rfl dX16_move_1 rfl ?_
  refine ks_astore_n dX16_move_4 (by decide) rfl ?_
  refine ks_sub [(2, _), (0, _), (1, _)] rfl ?_
  refine ks_aload_n dX16_move_5 rfl rfl ?_
  refine ks_aload_n dX16_move_6 rfl rfl ?_
  refine ks_iload_n dX16_move_7 rfl rfl ?_
  refine ks_bipush (x := nI 105) dX16_move_8 (by decide) rfl ?_
  refine ks_subN (by omega) dX16_move_10 rfl ?_
  refine ks_ialdN (i := op - 105) h369 rfl (by omega) (by decide) dX16_move_11 rfl ?_
  refine ks_callV (n := 1) (M' := mX16_need) (c_rs_need (d := d + 2) hO hK (n := nedR (op - 105)) (by omega)) hO cl_X16 rfl kx_2165 kx_2167 kxp_87 kx_30 kx_2168 (by decide +kernel) rfl (by decide) (Nat.le_of_ble_eq_true rfl) rfl dX16_move_12 rfl (fun z1 S1 y1 => ?_)
  obtain ⟨rfl, n1, n2⟩ := y1
  refine ks_if_neZ (tgt := 19) dX16_move_15 (by decide) rfl (fun h1 => ?_) (fun h1 => ?_)
  · have h2 := of_decide_eq_true h1
    have e2 := n1 h2
    obtain rfl := e2.symm
    refine ks_iload_n dX16_move_19 rfl rfl ?_
    have hsw : op = 105 ∨ op = 106 ∨ op = 107 ∨ op = 108 ∨ op = 109 ∨ op = 110 ∨ op = 111 ∨ op = 112 ∨ op = 113 ∨ op = 114 ∨ op = 115 ∨ op = 116 ∨ op = 117 ∨ op = 118 ∨ op = 119 ∨ op = 120 ∨ op = 121 ∨ op = 122 ∨ op = 123 ∨ op = 124 ∨ ((op < 105 ∨ 124 < op)) := by omega
    rcases hsw with rfl | rfl | rfl | rfl | rfl | rfl | rfl | rfl | rfl | rfl | rfl | rfl | rfl | rfl | rfl | rfl | rfl | rfl | rfl | rfl | hsw
    · refine ks_tableIn (off := 96) (tgt := 116) dX16_move_20 (by decide) (by decide) (by decide) (by decide) ?_
      have hn : 1 ≤ xs.length := h2
      rw [if_pos rfl]
      have u67_1 : V 67 = .int (nI xs.length) := by obtain ⟨_, _, _, _, h9, _⟩ := hK; exact h9.2.2.1.1
      refine ks_aload_n dX16_move_116 rfl rfl ?_
      refine ks_dup dX16_move_117 rfl rfl ?_
      refine ks_getf (T := TX16) (kf := 74) kx_2442 rfl in_X16 cl_X16 (by decide) hO rfl dX16_move_118 rfl ?_
      refine ks_tv v74 ?_
      refine ks_aload_n dX16_move_121 rfl rfl ?_
      refine ks_iconst (x := nI 0) dX16_move_122 (by decide) rfl ?_
      refine ks_callV (n := 1) (M' := mX16_isTrue) (c_rs_isTrue (d := d + 2) hO hK (k := 0) (by omega)) hO cl_X16 rfl kx_2169 kx_2171 kxp_88 kx_30 kx_2172 (by decide +kernel) rfl (by decide) (Nat.le_of_ble_eq_true rfl) rfl dX16_move_123 rfl (fun z2 S2 y2 => ?_)
      obtain ⟨rfl, hT2⟩ := y2
      obtain rfl := hT2.symm
      have tt : topTr xs = isTr (xs.getD 0 []) := by match xs, hn with | a :: r, _ => rfl
      rw [← tt]
      refine ks_if_neZ (tgt := 133) dX16_move_126 (by decide) rfl (fun h3 => ?_) (fun h3 => ?_)
      · refine ks_iconst (x := nI 0) dX16_move_133 (by decide) rfl ?_
        refine ks_ior dX16_move_134 rfl ?_
        refine ks_ti (y := ks_bo false) (by decide) ?_
        refine ks_putf (T := TX16) (kf := 74) kx_2442 rfl in_X16 tyX16_ok nmX16 cl_X16 (by decide) hO (Nat.le_of_ble_eq_true rfl) rfl rfl (ks_bo_z _) rfl dX16_move_135 rfl ?_
        refine md_put mdp_74 ?_
        refine ks_aload_n dX16_move_138 rfl rfl ?_
        refine ks_dup dX16_move_139 rfl rfl ?_
        refine ks_getf (T := TX16) (kf := 67) kx_2435 rfl in_X16 cl_X16 (by decide) (ks_set_same _ _ _) rfl dX16_move_140 rfl ?_
        refine ks_tv ((va_up_ne _ _ (by decide)).trans u67_1) ?_
        refine ks_iconst (x := nI 1) dX16_move_143 (by decide) rfl ?_
        refine ks_subN (by omega) dX16_move_144 rfl ?_
        refine ks_putf (T := TX16) (kf := 67) kx_2435 rfl in_X16 tyX16_ok nmX16 cl_X16 (by decide) (ks_set_same _ _ _) (Nat.le_of_ble_eq_true rfl) rfl rfl rfl rfl dX16_move_145 rfl ?_
        refine md_put mdp_67 ?_
        refine ks_goto (tgt := 604) dX16_move_148 (by decide) ?_
        refine ks_ret rfl dX16_move_604 ?_
        have hO2 : (ks_set S 290 (rfE (va_up V 74 (.int (ks_bo false))))).2.2 290 = some (rfE (va_up V 74 (.int (ks_bo false)))) := ks_set_same _ _ _
        obtain ⟨T, sz, oz, vz, hKK, rfl, gS, kS, h367⟩ := id hK
        have Q2 : rsQ (ks_set S 290 (rfE (va_up V 74 (.int (ks_bo false))))) (va_up V 74 (.int (ks_bo false))) (frT T) xs ys vs := ⟨T, sz, oz, vz, hKK.obj hO ⟨va_up_ne _ _ (by decide), va_up_ne _ _ (by decide), va_up_ne _ _ (by decide)⟩, rfl, gS, kS, (ks_set_ne _ _ (by decide)).trans h367⟩
        have M2 : msK S (ks_set S 290 (rfE (va_up V 74 (.int (ks_bo false))))) V (va_up V 74 (.int (ks_bo false))) (frT T) (frT T) := ⟨sfK.of (ks_up_set _ _ (by decide)), ks_set_same _ _ _, fun k _ _ h3 => va_up_ne _ _ h3⟩
        obtain ⟨Q3, M3⟩ := rsQ.pop (k := 1) hO2 Q2
        refine ⟨rfl, _, _, xs.drop 1, ys, M2.trans M3, Q3, Or.inl ⟨(va_up_ne _ _ (by decide)).trans (va_up_self _ _ _), by unfold vfS; rw [if_pos h3]⟩⟩
      · refine ks_iconst (x := nI 1) dX16_move_129 (by decide) rfl ?_
        refine ks_goto (tgt := 134) dX16_move_130 (by decide) ?_
        refine ks_ior dX16_move_134 rfl ?_
        refine ks_ti (y := ks_bo true) (by decide) ?_
        refine ks_putf (T := TX16) (kf := 74) kx_2442 rfl in_X16 tyX16_ok nmX16 cl_X16 (by decide) hO (Nat.le_of_ble_eq_true rfl) rfl rfl (ks_bo_z _) rfl dX16_move_135 rfl ?_
        refine md_put mdp_74 ?_
        refine ks_aload_n dX16_move_138 rfl rfl ?_
        refine ks_dup dX16_move_139 rfl rfl ?_
        refine ks_getf (T := TX16) (kf := 67) kx_2435 rfl in_X16 cl_X16 (by decide) (ks_set_same _ _ _) rfl dX16_move_140 rfl ?_
        refine ks_tv ((va_up_ne _ _ (by decide)).trans u67_1) ?_
        refine ks_iconst (x := nI 1) dX16_move_143 (by decide) rfl ?_
        refine ks_subN (by omega) dX16_move_144 rfl ?_
        refine ks_putf (T := TX16) (kf := 67) kx_2435 rfl in_X16 tyX16_ok nmX16 cl_X16 (by decide) (ks_set_same _ _ _) (Nat.le_of_ble_eq_true rfl) rfl rfl rfl rfl dX16_move_145 rfl ?_
        refine md_put mdp_67 ?_
        refine ks_goto (tgt := 604) dX16_move_148 (by decide) ?_
        refine ks_ret rfl dX16_move_604 ?_
        have hO2 : (ks_set S 290 (rfE (va_up V 74 (.int (ks_bo true))))).2.2 290 = some (rfE (va_up V 74 (.int (ks_bo true)))) := ks_set_same _ _ _
        obtain ⟨T, sz, oz, vz, hKK, rfl, gS, kS, h367⟩ := id hK
        have Q2 : rsQ (ks_set S 290 (rfE (va_up V 74 (.int (ks_bo true))))) (va_up V 74 (.int (ks_bo true))) (frT T) xs ys vs := ⟨T, sz, oz, vz, hKK.obj hO ⟨va_up_ne _ _ (by decide), va_up_ne _ _ (by decide), va_up_ne _ _ (by decide)⟩, rfl, gS, kS, (ks_set_ne _ _ (by decide)).trans h367⟩
        have M2 : msK S (ks_set S 290 (rfE (va_up V 74 (.int (ks_bo true))))) V (va_up V 74 (.int (ks_bo true))) (frT T) (frT T) := ⟨sfK.of (ks_up_set _ _ (by decide)), ks_set_same _ _ _, fun k _ _ h3 => va_up_ne _ _ h3⟩
        obtain ⟨Q3, M3⟩ := rsQ.pop (k := 1) hO2 Q2
        refine ⟨rfl, _, _, xs.drop 1, ys, M2.trans M3, Q3, Or.inr ⟨(va_up_ne _ _ (by decide)).trans (va_up_self _ _ _), fun q hq => by unfold vfS at hq; rw [if_neg (by rw [h3]; decide)] at hq; cases hq⟩⟩
    · refine ks_tableIn (off := 569) (tgt := 589) dX16_move_20 (by decide) (by decide) (by decide) (by decide) ?_
      omega
    · refine ks_tableIn (off := 131) (tgt := 151) dX16_move_20 (by decide) (by decide) (by decide) (by decide) ?_
      have hn : 1 ≤ xs.length := h2
      rw [if_neg (by decide)]
      refine ks_sub [(0, _), (1, _)] rfl (l_mv107 (d := d + 2) hO hK (by omega) hl v74 (fun S' V' F' m c q => ⟨rfl, V', F', _, _, m, q, Or.inl ⟨c, by unfold mvS; rw [if_neg (by show ¬ xs.length < 1; omega)]; rfl⟩⟩))
    · refine ks_tableIn (off := 218) (tgt := 238) dX16_move_20 (by decide) (by decide) (by decide) (by decide) ?_
      have hn : 0 ≤ xs.length := h2
      rw [if_neg (by decide)]
      have v70 : V 70 = .int (nI ys.length) := by obtain ⟨_, _, _, _, h9, _⟩ := hK; exact h9.2.2.1.2.1
      have bys : ys.length ≤ 1001 := by obtain ⟨_, _, _, _, h9, _⟩ := hK; exact h9.2.2.2.1.2.1
      refine ks_aload_n dX16_move_238 rfl rfl ?_
      refine ks_getf (T := TX16) (kf := 70) kx_2438 rfl in_X16 cl_X16 (by decide) hO rfl dX16_move_239 rfl ?_
      refine ks_tv v70 ?_
      refine ks_if_neN (tgt := 253) (by omega) dX16_move_242 (by decide) rfl (fun h3 => ?_) (fun h3 => ?_)
      · have ey : mvS 108 xs ys = some (ys.getD 0 [] :: xs, ys.drop 1) := by
          match ys, h3 with
          | [], h => exact absurd rfl h
          | b :: r, _ => rfl
        rw [ey]
        exact ks_sub [(0, _), (1, _)] rfl (l_mv108 (d := d + 2) hO hK (by omega) hl v74 (fun S' V' F' m c q => ⟨rfl, V', F', _, _, m, q, Or.inl ⟨c, rfl⟩⟩))
      · refine ks_aload_n dX16_move_245 rfl rfl ?_
        refine ks_iconst (x := nI 1) dX16_move_246 (by decide) rfl ?_
        refine ks_putf (T := TX16) (kf := 74) kx_2442 rfl in_X16 tyX16_ok nmX16 cl_X16 (by decide) hO (Nat.le_of_ble_eq_true rfl) rfl rfl rfl rfl dX16_move_247 rfl ?_
        refine md_put mdp_74 ?_
        refine ks_goto (tgt := 604) dX16_move_250 (by decide) ?_
        refine ks_ret rfl dX16_move_604 ?_
        obtain ⟨f1, f2⟩ := msK.fail hO hK
        refine ⟨rfl, _, F, xs, ys, f1, f2, Or.inr ⟨va_up_self _ _ _, fun q hq => ?_⟩⟩
        obtain rfl : ys = [] := List.length_eq_zero_iff.mp h3
        cases hq
    · refine ks_tableIn (off := 316) (tgt := 336) dX16_move_20 (by decide) (by decide) (by decide) (by decide) ?_
      have hn : 2 ≤ xs.length := h2
      rw [if_neg (by decide)]
      have u67_2 : V 67 = .int (nI xs.length) := by obtain ⟨_, _, _, _, h9, _⟩ := hK; exact h9.2.2.1.1
      refine ks_aload_n dX16_move_336 rfl rfl ?_
      refine ks_dup dX16_move_337 rfl rfl ?_
      refine ks_getf (T := TX16) (kf := 67) kx_2435 rfl in_X16 cl_X16 (by decide) hO rfl dX16_move_338 rfl ?_
      refine ks_tv u67_2 ?_
      refine ks_iconst (x := nI 2) dX16_move_341 (by decide) rfl ?_
      refine ks_subN (by omega) dX16_move_342 rfl ?_
      refine ks_putf (T := TX16) (kf := 67) kx_2435 rfl in_X16 tyX16_ok nmX16 cl_X16 (by decide) hO (Nat.le_of_ble_eq_true rfl) rfl rfl rfl rfl dX16_move_343 rfl ?_
      refine md_put mdp_67 ?_
      refine ks_goto (tgt := 604) dX16_move_346 (by decide) ?_
      refine ks_ret rfl dX16_move_604 ?_
      obtain ⟨Q3, M3⟩ := rsQ.pop (k := 2) hO hK
      exact ⟨rfl, _, _, xs.drop 2, ys, M3, Q3, Or.inl ⟨(va_up_ne _ _ (by decide)).trans v74, by unfold mvS; rw [if_neg (by show ¬ xs.length < 2; omega)]; rfl⟩⟩
    · refine ks_tableIn (off := 329) (tgt := 349) dX16_move_20 (by decide) (by decide) (by decide) (by decide) ?_
      have hn : 2 ≤ xs.length := h2
      rw [if_neg (by decide)]
      refine ks_iload_n dX16_move_349 rfl rfl ?_
      refine ks_bipush (x := nI 108) dX16_move_350 (by decide) rfl ?_
      refine ks_subN (by omega) dX16_move_352 rfl ?_
      refine ks_ti (y := nI 2) rfl ?_
      refine ks_istore dX16_move_353 (by decide) rfl ?_
      refine ks_sub [(5, _), (0, _), (1, _), (2, _)] rfl ?_
      refine ks_iconst (x := nI 0) dX16_move_355 (by decide) rfl ?_
      refine ks_istore dX16_move_356 (by decide) rfl ?_
      refine ks_sub [(6, _), (0, _), (1, _), (2, _), (5, _)] rfl ?_
      refine ks_iload dX16_move_358 rfl rfl ?_
      refine ks_iload dX16_move_360 rfl rfl ?_
      refine ks_icmp_geN (tgt := 379) (by decide) (by decide) dX16_move_362 (by decide) rfl (fun h => absurd h (by decide)) (fun _ => ?_)
      refine ks_aload_n dX16_move_365 rfl rfl ?_
      refine ks_iload dX16_move_366 rfl rfl ?_
      refine ks_iconst (x := nI 1) dX16_move_368 (by decide) rfl ?_
      refine ks_subN (by omega) dX16_move_369 rfl ?_
      refine ks_ti (y := nI 1) rfl ?_
      refine ks_callV (n := 1) (M' := mX16_copy) (c_rs_copy (d := d) hO hK (k := 1) (by omega)) hO cl_X16 rfl kx_2344 kx_2346 kxp_122 kx_30 kx_2347 (by decide +kernel) rfl (by decide) (Nat.le_of_ble_eq_true rfl) rfl dX16_move_370 rfl (fun z3 S3 y3 => ?_)
      obtain ⟨rfl, V3, F3, m3, hc3⟩ := y3
      have M3 := (msK.rf hO : msK S S V V F F).trans m3
      rcases hc3 with ⟨ca3, cb3, cc3⟩ | ⟨ca3, cb3, cc3⟩
      · have w3 := cb3.trans v74
        refine ks_incN (c := 1) (e := 1) dX16_move_373 rfl (by decide) rfl (by decide) rfl ?_
        refine ks_sub [(6, _), (0, _), (1, _), (2, _), (5, _)] rfl ?_
        refine ks_goto (tgt := 358) dX16_move_376 (by decide) ?_
        refine ks_iload dX16_move_358 rfl rfl ?_
        refine ks_iload dX16_move_360 rfl rfl ?_
        refine ks_icmp_geN (tgt := 379) (by decide) (by decide) dX16_move_362 (by decide) rfl (fun h => absurd h (by decide)) (fun _ => ?_)
        refine ks_aload_n dX16_move_365 rfl rfl ?_
        refine ks_iload dX16_move_366 rfl rfl ?_
        refine ks_iconst (x := nI 1) dX16_move_368 (by decide) rfl ?_
        refine ks_subN (by omega) dX16_move_369 rfl ?_
        refine ks_ti (y := nI 1) rfl ?_
        refine ks_callV (n := 1) (M' := mX16_copy) (c_rs_copy (d := d) m3.2.1 cc3 (k := 1) (by show 1 < xs.length + 1; omega)) m3.2.1 cl_X16 rfl kx_2344 kx_2346 kxp_122 kx_30 kx_2347 (by decide +kernel) rfl (by decide) (Nat.le_of_ble_eq_true rfl) rfl dX16_move_370 rfl (fun z4 S4 y4 => ?_)
        obtain ⟨rfl, V4, F4, m4, hc4⟩ := y4
        have M4 := M3.trans m4
        rcases hc4 with ⟨ca4, cb4, cc4⟩ | ⟨ca4, cb4, cc4⟩
        · have w4 := cb4.trans w3
          refine ks_incN (c := 1) (e := 2) dX16_move_373 rfl (by decide) rfl (by decide) rfl ?_
          refine ks_sub [(6, _), (0, _), (1, _), (2, _), (5, _)] rfl ?_
          refine ks_goto (tgt := 358) dX16_move_376 (by decide) ?_
          refine ks_iload dX16_move_358 rfl rfl ?_
          refine ks_iload dX16_move_360 rfl rfl ?_
          refine ks_icmp_geN (tgt := 379) (by decide) (by decide) dX16_move_362 (by decide) rfl (fun _ => ?_) (fun h => absurd h (by decide))
          refine ks_goto (tgt := 604) dX16_move_379 (by decide) ?_
          refine ks_ret rfl dX16_move_604 ?_
          refine ⟨rfl, ?_⟩
          exact ⟨V4, F4, (cpS 1 (cpS 1 xs)), ys, M4, cc4, Or.inl ⟨w4, by unfold mvS; rw [if_neg (by show ¬ xs.length < 2; omega)]; rfl⟩⟩
        · have ci : ¬ xs.length + 1 ≤ 1000 := ca4
          refine ks_incN (c := 1) (e := 2) dX16_move_373 rfl (by decide) rfl (by decide) rfl ?_
          refine ks_sub [(6, _), (0, _), (1, _), (2, _), (5, _)] rfl ?_
          refine ks_goto (tgt := 358) dX16_move_376 (by decide) ?_
          refine ks_iload dX16_move_358 rfl rfl ?_
          refine ks_iload dX16_move_360 rfl rfl ?_
          refine ks_icmp_geN (tgt := 379) (by decide) (by decide) dX16_move_362 (by decide) rfl (fun _ => ?_) (fun h => absurd h (by decide))
          refine ks_goto (tgt := 604) dX16_move_379 (by decide) ?_
          refine ks_ret rfl dX16_move_604 ?_
          have e9 : mvS 110 xs ys = some ((cpS 1 (cpS 1 xs)), ys) := by unfold mvS; rw [if_neg (by show ¬ xs.length < 2; omega)]; rfl
          refine ⟨rfl, V4, F4, (cpS 1 xs), ys, M4, cc4, Or.inr ⟨cb4, fun q hq => ?_⟩⟩
          rw [e9] at hq
          cases hq
          show 1000 < xs.length + 2 + ys.length
          omega
      · omega
    · refine ks_tableIn (off := 329) (tgt := 349) dX16_move_20 (by decide) (by decide) (by decide) (by decide) ?_
      have hn : 3 ≤ xs.length := h2
      rw [if_neg (by decide)]
      refine ks_iload_n dX16_move_349 rfl rfl ?_
      refine ks_bipush (x := nI 108) dX16_move_350 (by decide) rfl ?_
      refine ks_subN (by omega) dX16_move_352 rfl ?_
      refine ks_ti (y := nI 3) rfl ?_
      refine ks_istore dX16_move_353 (by decide) rfl ?_
      refine ks_sub [(5, _), (0, _), (1, _), (2, _)] rfl ?_
      refine ks_iconst (x := nI 0) dX16_move_355 (by decide) rfl ?_
      refine ks_istore dX16_move_356 (by decide) rfl ?_
      refine ks_sub [(6, _), (0, _), (1, _), (2, _), (5, _)] rfl ?_
      refine ks_iload dX16_move_358 rfl rfl ?_
      refine ks_iload dX16_move_360 rfl rfl ?_
      refine ks_icmp_geN (tgt := 379) (by decide) (by decide) dX16_move_362 (by decide) rfl (fun h => absurd h (by decide)) (fun _ => ?_)
      refine ks_aload_n dX16_move_365 rfl rfl ?_
      refine ks_iload dX16_move_366 rfl rfl ?_
      refine ks_iconst (x := nI 1) dX16_move_368 (by decide) rfl ?_
      refine ks_subN (by omega) dX16_move_369 rfl ?_
      refine ks_ti (y := nI 2) rfl ?_
      refine ks_callV (n := 1) (M' := mX16_copy) (c_rs_copy (d := d) hO hK (k := 2) (by omega)) hO cl_X16 rfl kx_2344 kx_2346 kxp_122 kx_30 kx_2347 (by decide +kernel) rfl (by decide) (Nat.le_of_ble_eq_true rfl) rfl dX16_move_370 rfl (fun z5 S5 y5 => ?_)
      obtain ⟨rfl, V5, F5, m5, hc5⟩ := y5
      have M5 := (msK.rf hO : msK S S V V F F).trans m5
      rcases hc5 with ⟨ca5, cb5, cc5⟩ | ⟨ca5, cb5, cc5⟩
      · have w5 := cb5.trans v74
        refine ks_incN (c := 1) (e := 1) dX16_move_373 rfl (by decide) rfl (by decide) rfl ?_
        refine ks_sub [(6, _), (0, _), (1, _), (2, _), (5, _)] rfl ?_
        refine ks_goto (tgt := 358) dX16_move_376 (by decide) ?_
        refine ks_iload dX16_move_358 rfl rfl ?_
        refine ks_iload dX16_move_360 rfl rfl ?_
        refine ks_icmp_geN (tgt := 379) (by decide) (by decide) dX16_move_362 (by decide) rfl (fun h => absurd h (by decide)) (fun _ => ?_)
        refine ks_aload_n dX16_move_365 rfl rfl ?_
        refine ks_iload dX16_move_366 rfl rfl ?_
        refine ks_iconst (x := nI 1) dX16_move_368 (by decide) rfl ?_
        refine ks_subN (by omega) dX16_move_369 rfl ?_
        refine ks_ti (y := nI 2) rfl ?_
        refine ks_callV (n := 1) (M' := mX16_copy) (c_rs_copy (d := d) m5.2.1 cc5 (k := 2) (by show 2 < xs.length + 1; omega)) m5.2.1 cl_X16 rfl kx_2344 kx_2346 kxp_122 kx_30 kx_2347 (by decide +kernel) rfl (by decide) (Nat.le_of_ble_eq_true rfl) rfl dX16_move_370 rfl (fun z6 S6 y6 => ?_)
        obtain ⟨rfl, V6, F6, m6, hc6⟩ := y6
        have M6 := M5.trans m6
        rcases hc6 with ⟨ca6, cb6, cc6⟩ | ⟨ca6, cb6, cc6⟩
        · have w6 := cb6.trans w5
          refine ks_incN (c := 1) (e := 2) dX16_move_373 rfl (by decide) rfl (by decide) rfl ?_
          refine ks_sub [(6, _), (0, _), (1, _), (2, _), (5, _)] rfl ?_
          refine ks_goto (tgt := 358) dX16_move_376 (by decide) ?_
          refine ks_iload dX16_move_358 rfl rfl ?_
          refine ks_iload dX16_move_360 rfl rfl ?_
          refine ks_icmp_geN (tgt := 379) (by decide) (by decide) dX16_move_362 (by decide) rfl (fun h => absurd h (by decide)) (fun _ => ?_)
          refine ks_aload_n dX16_move_365 rfl rfl ?_
          refine ks_iload dX16_move_366 rfl rfl ?_
          refine ks_iconst (x := nI 1) dX16_move_368 (by decide) rfl ?_
          refine ks_subN (by omega) dX16_move_369 rfl ?_
          refine ks_ti (y := nI 2) rfl ?_
          refine ks_callV (n := 1) (M' := mX16_copy) (c_rs_copy (d := d) m6.2.1 cc6 (k := 2) (by show 2 < xs.length + 2; omega)) m6.2.1 cl_X16 rfl kx_2344 kx_2346 kxp_122 kx_30 kx_2347 (by decide +kernel) rfl (by decide) (Nat.le_of_ble_eq_true rfl) rfl dX16_move_370 rfl (fun z8 S8 y8 => ?_)
          obtain ⟨rfl, V8, F8, m8, hc8⟩ := y8
          have M8 := M6.trans m8
          rcases hc8 with ⟨ca8, cb8, cc8⟩ | ⟨ca8, cb8, cc8⟩
          · have w8 := cb8.trans w6
            refine ks_incN (c := 1) (e := 3) dX16_move_373 rfl (by decide) rfl (by decide) rfl ?_
            refine ks_sub [(6, _), (0, _), (1, _), (2, _), (5, _)] rfl ?_
            refine ks_goto (tgt := 358) dX16_move_376 (by decide) ?_
            refine ks_iload dX16_move_358 rfl rfl ?_
            refine ks_iload dX16_move_360 rfl rfl ?_
            refine ks_icmp_geN (tgt := 379) (by decide) (by decide) dX16_move_362 (by decide) rfl (fun _ => ?_) (fun h => absurd h (by decide))
            refine ks_goto (tgt := 604) dX16_move_379 (by decide) ?_
            refine ks_ret rfl dX16_move_604 ?_
            refine ⟨rfl, ?_⟩
            exact ⟨V8, F8, (cpS 2 (cpS 2 (cpS 2 xs))), ys, M8, cc8, Or.inl ⟨w8, by unfold mvS; rw [if_neg (by show ¬ xs.length < 3; omega)]; rfl⟩⟩
          · have ci : ¬ xs.length + 2 ≤ 1000 := ca8
            refine ks_incN (c := 1) (e := 3) dX16_move_373 rfl (by decide) rfl (by decide) rfl ?_
            refine ks_sub [(6, _), (0, _), (1, _), (2, _), (5, _)] rfl ?_
            refine ks_goto (tgt := 358) dX16_move_376 (by decide) ?_
            refine ks_iload dX16_move_358 rfl rfl ?_
            refine ks_iload dX16_move_360 rfl rfl ?_
            refine ks_icmp_geN (tgt := 379) (by decide) (by decide) dX16_move_362 (by decide) rfl (fun _ => ?_) (fun h => absurd h (by decide))
            refine ks_goto (tgt := 604) dX16_move_379 (by decide) ?_
            refine ks_ret rfl dX16_move_604 ?_
            have e9 : mvS 111 xs ys = some ((cpS 2 (cpS 2 (cpS 2 xs))), ys) := by unfold mvS; rw [if_neg (by show ¬ xs.length < 3; omega)]; rfl
            refine ⟨rfl, V8, F8, (cpS 2 (cpS 2 xs)), ys, M8, cc8, Or.inr ⟨cb8, fun q hq => ?_⟩⟩
            rw [e9] at hq
            cases hq
            show 1000 < xs.length + 3 + ys.length
            omega
        · have ci : ¬ xs.length + 1 ≤ 1000 := ca6
          refine ks_incN (c := 1) (e := 2) dX16_move_373 rfl (by decide) rfl (by decide) rfl ?_
          refine ks_sub [(6, _), (0, _), (1, _), (2, _), (5, _)] rfl ?_
          refine ks_goto (tgt := 358) dX16_move_376 (by decide) ?_
          refine ks_iload dX16_move_358 rfl rfl ?_
          refine ks_iload dX16_move_360 rfl rfl ?_
          refine ks_icmp_geN (tgt := 379) (by decide) (by decide) dX16_move_362 (by decide) rfl (fun h => absurd h (by decide)) (fun _ => ?_)
          refine ks_aload_n dX16_move_365 rfl rfl ?_
          refine ks_iload dX16_move_366 rfl rfl ?_
          refine ks_iconst (x := nI 1) dX16_move_368 (by decide) rfl ?_
          refine ks_subN (by omega) dX16_move_369 rfl ?_
          refine ks_ti (y := nI 2) rfl ?_
          refine ks_callV (n := 1) (M' := mX16_copy) (c_rs_copy (d := d) m6.2.1 cc6 (k := 2) (by show 2 < xs.length + 1; omega)) m6.2.1 cl_X16 rfl kx_2344 kx_2346 kxp_122 kx_30 kx_2347 (by decide +kernel) rfl (by decide) (Nat.le_of_ble_eq_true rfl) rfl dX16_move_370 rfl (fun z7 S7 y7 => ?_)
          obtain ⟨rfl, V7, F7, m7, hc7⟩ := y7
          have M7 := M6.trans m7
          obtain ⟨cb7, cc7⟩ : V7 74 = .int (ks_bo true) ∧ rsQ S7 V7 F7 (cpS 2 xs) ys vs := by
            rcases hc7 with ⟨ca, cb, cc⟩ | ⟨ca, cb, cc⟩
            · exact absurd ca ci
            · exact ⟨cb, cc⟩
          refine ks_incN (c := 1) (e := 3) dX16_move_373 rfl (by decide) rfl (by decide) rfl ?_
          refine ks_sub [(6, _), (0, _), (1, _), (2, _), (5, _)] rfl ?_
          refine ks_goto (tgt := 358) dX16_move_376 (by decide) ?_
          refine ks_iload dX16_move_358 rfl rfl ?_
          refine ks_iload dX16_move_360 rfl rfl ?_
          refine ks_icmp_geN (tgt := 379) (by decide) (by decide) dX16_move_362 (by decide) rfl (fun _ => ?_) (fun h => absurd h (by decide))
          refine ks_goto (tgt := 604) dX16_move_379 (by decide) ?_
          refine ks_ret rfl dX16_move_604 ?_
          have e9 : mvS 111 xs ys = some ((cpS 2 (cpS 2 (cpS 2 xs))), ys) := by unfold mvS; rw [if_neg (by show ¬ xs.length < 3; omega)]; rfl
          refine ⟨rfl, V7, F7, (cpS 2 xs), ys, M7, cc7, Or.inr ⟨cb7, fun q hq => ?_⟩⟩
          rw [e9] at hq
          cases hq
          show 1000 < xs.length + 3 + ys.length
          omega
      · omega
    · refine ks_tableIn (off := 362) (tgt := 382) dX16_move_20 (by decide) (by decide) (by decide) (by decide) ?_
      have hn : 4 ≤ xs.length := h2
      rw [if_neg (by decide)]
      refine ks_aload_n dX16_move_382 rfl rfl ?_
      refine ks_iconst (x := nI 3) dX16_move_383 (by decide) rfl ?_
      refine ks_callV (n := 1) (M' := mX16_copy) (c_rs_copy (d := d) hO hK (k := 3) (by omega)) hO cl_X16 rfl kx_2344 kx_2346 kxp_122 kx_30 kx_2347 (by decide +kernel) rfl (by decide) (Nat.le_of_ble_eq_true rfl) rfl dX16_move_384 rfl (fun z9 S9 y9 => ?_)
      obtain ⟨rfl, V9, F9, m9, hc9⟩ := y9
      have M9 := (msK.rf hO : msK S S V V F F).trans m9
      rcases hc9 with ⟨ca9, cb9, cc9⟩ | ⟨ca9, cb9, cc9⟩
      · have w9 := cb9.trans v74
        refine ks_aload_n dX16_move_387 rfl rfl ?_
        refine ks_iconst (x := nI 3) dX16_move_388 (by decide) rfl ?_
        refine ks_callV (n := 1) (M' := mX16_copy) (c_rs_copy (d := d) m9.2.1 cc9 (k := 3) (by show 3 < xs.length + 1; omega)) m9.2.1 cl_X16 rfl kx_2344 kx_2346 kxp_122 kx_30 kx_2347 (by decide +kernel) rfl (by decide) (Nat.le_of_ble_eq_true rfl) rfl dX16_move_389 rfl (fun z10 S10 y10 => ?_)
        obtain ⟨rfl, V10, F10, m10, hc10⟩ := y10
        have M10 := M9.trans m10
        rcases hc10 with ⟨ca10, cb10, cc10⟩ | ⟨ca10, cb10, cc10⟩
        · have w10 := cb10.trans w9
          refine ks_goto (tgt := 604) dX16_move_392 (by decide) ?_
          refine ks_ret rfl dX16_move_604 ?_
          refine ⟨rfl, ?_⟩
          exact ⟨V10, F10, (cpS 3 (cpS 3 xs)), ys, M10, cc10, Or.inl ⟨w10, by unfold mvS; rw [if_neg (by show ¬ xs.length < 4; omega)]; rfl⟩⟩
        · have ci : ¬ xs.length + 1 ≤ 1000 := ca10
          refine ks_goto (tgt := 604) dX16_move_392 (by decide) ?_
          refine ks_ret rfl dX16_move_604 ?_
          have e9 : mvS 112 xs ys = some ((cpS 3 (cpS 3 xs)), ys) := by unfold mvS; rw [if_neg (by show ¬ xs.length < 4; omega)]; rfl
          refine ⟨rfl, V10, F10, (cpS 3 xs), ys, M10, cc10, Or.inr ⟨cb10, fun q hq => ?_⟩⟩
          rw [e9] at hq
          cases hq
          show 1000 < xs.length + 2 + ys.length
          omega
      · omega
    · refine ks_tableIn (off := 375) (tgt := 395) dX16_move_20 (by decide) (by decide) (by decide) (by decide) ?_
      have hn : 6 ≤ xs.length := h2
      rw [if_neg (by decide)]
      refine ks_aload_n dX16_move_395 rfl rfl ?_
      refine ks_iconst (x := nI 5) dX16_move_396 (by decide) rfl ?_
      refine ks_callV (n := 1) (M' := mX16_lift) (c_rs_lift (d := d + 2) hO hK (k := 5) (by omega)) hO cl_X16 rfl kx_2348 kx_2350 kxp_123 kx_30 kx_2351 (by decide +kernel) rfl (by decide) (Nat.le_of_ble_eq_true rfl) rfl dX16_move_397 rfl (fun z11 S11 y11 => ?_)
      obtain ⟨rfl, u11, r11⟩ := y11
      have m11 := msK.up (F := F) hO u11 (by decide) (by decide)
      have M11 := (msK.rf hO : msK S S V V F F).trans m11
      refine ks_aload_n dX16_move_400 rfl rfl ?_
      refine ks_iconst (x := nI 5) dX16_move_401 (by decide) rfl ?_
      refine ks_callV (n := 1) (M' := mX16_lift) (c_rs_lift (d := d + 2) m11.2.1 r11 (k := 5) (by rw [lfS_lq (by omega)]; omega)) m11.2.1 cl_X16 rfl kx_2348 kx_2350 kxp_123 kx_30 kx_2351 (by decide +kernel) rfl (by decide) (Nat.le_of_ble_eq_true rfl) rfl dX16_move_402 rfl (fun z12 S12 y12 => ?_)
      obtain ⟨rfl, u12, r12⟩ := y12
      have m12 := msK.up (F := F) m11.2.1 u12 (by decide) (by decide)
      have M12 := M11.trans m12
      refine ks_goto (tgt := 604) dX16_move_405 (by decide) ?_
      refine ks_ret rfl dX16_move_604 ?_
      refine ⟨rfl, ?_⟩
      exact ⟨V, F, (lfS 5 (lfS 5 xs)), ys, M12, r12, Or.inl ⟨v74, by unfold mvS; rw [if_neg (by show ¬ xs.length < 6; omega)]; rfl⟩⟩
    · refine ks_tableIn (off := 388) (tgt := 408) dX16_move_20 (by decide) (by decide) (by decide) (by decide) ?_
      have hn : 4 ≤ xs.length := h2
      rw [if_neg (by decide)]
      refine ks_aload_n dX16_move_408 rfl rfl ?_
      refine ks_iconst (x := nI 3) dX16_move_409 (by decide) rfl ?_
      refine ks_callV (n := 1) (M' := mX16_lift) (c_rs_lift (d := d + 2) hO hK (k := 3) (by omega)) hO cl_X16 rfl kx_2348 kx_2350 kxp_123 kx_30 kx_2351 (by decide +kernel) rfl (by decide) (Nat.le_of_ble_eq_true rfl) rfl dX16_move_410 rfl (fun z13 S13 y13 => ?_)
      obtain ⟨rfl, u13, r13⟩ := y13
      have m13 := msK.up (F := F) hO u13 (by decide) (by decide)
      have M13 := (msK.rf hO : msK S S V V F F).trans m13
      refine ks_aload_n dX16_move_413 rfl rfl ?_
      refine ks_iconst (x := nI 3) dX16_move_414 (by decide) rfl ?_
      refine ks_callV (n := 1) (M' := mX16_lift) (c_rs_lift (d := d + 2) m13.2.1 r13 (k := 3) (by rw [lfS_lq (by omega)]; omega)) m13.2.1 cl_X16 rfl kx_2348 kx_2350 kxp_123 kx_30 kx_2351 (by decide +kernel) rfl (by decide) (Nat.le_of_ble_eq_true rfl) rfl dX16_move_415 rfl (fun z14 S14 y14 => ?_)
      obtain ⟨rfl, u14, r14⟩ := y14
      have m14 := msK.up (F := F) m13.2.1 u14 (by decide) (by decide)
      have M14 := M13.trans m14
      refine ks_goto (tgt := 604) dX16_move_418 (by decide) ?_
      refine ks_ret rfl dX16_move_604 ?_
      refine ⟨rfl, ?_⟩
      exact ⟨V, F, (lfS 3 (lfS 3 xs)), ys, M14, r14, Or.inl ⟨v74, by unfold mvS; rw [if_neg (by show ¬ xs.length < 4; omega)]; rfl⟩⟩
    · refine ks_tableIn (off := 401) (tgt := 421) dX16_move_20 (by decide) (by decide) (by decide) (by decide) ?_
      have hn : 1 ≤ xs.length := h2
      rw [if_neg (by decide)]
      have u67_15 : V 67 = .int (nI xs.length) := by obtain ⟨_, _, _, _, h9, _⟩ := hK; exact h9.2.2.1.1
      refine ks_aload_n dX16_move_421 rfl rfl ?_
      refine ks_iconst (x := nI 0) dX16_move_422 (by decide) rfl ?_
      refine ks_callV (n := 1) (M' := mX16_isTrue) (c_rs_isTrue (d := d + 2) hO hK (k := 0) (by omega)) hO cl_X16 rfl kx_2169 kx_2171 kxp_88 kx_30 kx_2172 (by decide +kernel) rfl (by decide) (Nat.le_of_ble_eq_true rfl) rfl dX16_move_423 rfl (fun z2 S2 y2 => ?_)
      obtain ⟨rfl, hT2⟩ := y2
      obtain rfl := hT2.symm
      have tt : topTr xs = isTr (xs.getD 0 []) := by match xs, hn with | a :: r, _ => rfl
      rw [← tt]
      refine ks_if_eqZ (tgt := 604) dX16_move_426 (by decide) rfl (fun h3 => ?_) (fun h3 => ?_)
      · refine ks_ret rfl dX16_move_604 ?_
        exact ⟨rfl, V, F, xs, ys, msK.rf hO, hK, Or.inl ⟨v74, by unfold mvS; rw [if_neg (by show ¬ xs.length < 1; omega)]; show some (if topTr xs then _ else _, _) = _; rw [if_neg (by rw [h3]; decide)]⟩⟩
      · refine ks_aload_n dX16_move_429 rfl rfl ?_
        refine ks_iconst (x := nI 0) dX16_move_430 (by decide) rfl ?_
        refine ks_callV (n := 1) (M' := mX16_copy) (c_rs_copy (d := d) hO hK (k := 0) (by omega)) hO cl_X16 rfl kx_2344 kx_2346 kxp_122 kx_30 kx_2347 (by decide +kernel) rfl (by decide) (Nat.le_of_ble_eq_true rfl) rfl dX16_move_431 rfl (fun z16 S16 y16 => ?_)
        obtain ⟨rfl, V16, F16, m16, hc16⟩ := y16
        have M16 := (msK.rf hO : msK S S V V F F).trans m16
        rcases hc16 with ⟨ca16, cb16, cc16⟩ | ⟨ca16, cb16, cc16⟩
        · have w16 := cb16.trans v74
          refine ks_goto (tgt := 604) dX16_move_434 (by decide) ?_
          refine ks_ret rfl dX16_move_604 ?_
          refine ⟨rfl, ?_⟩
          exact ⟨V16, F16, (cpS 0 xs), ys, M16, cc16, Or.inl ⟨w16, by unfold mvS; rw [if_neg (by show ¬ xs.length < 1; omega)]; show some (if topTr xs then _ else _, _) = _; rw [if_pos h3]⟩⟩
        · omega
    · refine ks_tableIn (off := 417) (tgt := 437) dX16_move_20 (by decide) (by decide) (by decide) (by decide) ?_
      have hn : 0 ≤ xs.length := h2
      rw [if_neg (by decide)]
      have u67_17 : V 67 = .int (nI xs.length) := by obtain ⟨_, _, _, _, h9, _⟩ := hK; exact h9.2.2.1.1
      refine ks_aload_n dX16_move_437 rfl rfl ?_
      refine ks_aload_n dX16_move_438 rfl rfl ?_
      refine ks_getf (T := TX16) (kf := 67) kx_2435 rfl in_X16 cl_X16 (by decide) hO rfl dX16_move_439 rfl ?_
      refine ks_tv u67_17 ?_
      refine ks_i2lN (by omega) dX16_move_442 rfl ?_
      rw [lN_iL]
      refine ks_callV (n := 1) (M' := mX16_pushNumber) (c_rs_pushNumber (d := d) hO hK (v := (xs.length : Int)) (by omega)) hO cl_X16 rfl kx_2184 kx_2186 kxp_91 kx_30 kx_2187 (by decide +kernel) rfl (by decide) (Nat.le_of_ble_eq_true rfl) rfl dX16_move_443 rfl (fun z2 S2 y2 => ?_)
      obtain ⟨rfl, V2, F2, m2, hc⟩ := y2
      rcases hc with ⟨c1, c2, c3⟩ | ⟨c1, c2, c3⟩
      · refine ks_goto (tgt := 604) dX16_move_446 (by decide) ?_
        refine ks_ret rfl dX16_move_604 ?_
        exact ⟨rfl, V2, F2, _, ys, m2, c3, Or.inl ⟨c2.trans v74, by unfold mvS; rw [if_neg (by show ¬ xs.length < 0; omega)]; rfl⟩⟩
      · omega
    · refine ks_tableIn (off := 429) (tgt := 449) dX16_move_20 (by decide) (by decide) (by decide) (by decide) ?_
      have hn : 1 ≤ xs.length := h2
      rw [if_neg (by decide)]
      have u67_18 : V 67 = .int (nI xs.length) := by obtain ⟨_, _, _, _, h9, _⟩ := hK; exact h9.2.2.1.1
      refine ks_aload_n dX16_move_449 rfl rfl ?_
      refine ks_dup dX16_move_450 rfl rfl ?_
      refine ks_getf (T := TX16) (kf := 67) kx_2435 rfl in_X16 cl_X16 (by decide) hO rfl dX16_move_451 rfl ?_
      refine ks_tv u67_18 ?_
      refine ks_iconst (x := nI 1) dX16_move_454 (by decide) rfl ?_
      refine ks_subN (by omega) dX16_move_455 rfl ?_
      refine ks_putf (T := TX16) (kf := 67) kx_2435 rfl in_X16 tyX16_ok nmX16 cl_X16 (by decide) hO (Nat.le_of_ble_eq_true rfl) rfl rfl rfl rfl dX16_move_456 rfl ?_
      refine md_put mdp_67 ?_
      refine ks_goto (tgt := 604) dX16_move_459 (by decide) ?_
      refine ks_ret rfl dX16_move_604 ?_
      obtain ⟨Q3, M3⟩ := rsQ.pop (k := 1) hO hK
      exact ⟨rfl, _, _, xs.drop 1, ys, M3, Q3, Or.inl ⟨(va_up_ne _ _ (by decide)).trans v74, by unfold mvS; rw [if_neg (by show ¬ xs.length < 1; omega)]; rfl⟩⟩
    · refine ks_tableIn (off := 442) (tgt := 462) dX16_move_20 (by decide) (by decide) (by decide) (by decide) ?_
      have hn : 1 ≤ xs.length := h2
      rw [if_neg (by decide)]
      refine ks_aload_n dX16_move_462 rfl rfl ?_
      refine ks_iconst (x := nI 0) dX16_move_463 (by decide) rfl ?_
      refine ks_callV (n := 1) (M' := mX16_copy) (c_rs_copy (d := d) hO hK (k := 0) (by omega)) hO cl_X16 rfl kx_2344 kx_2346 kxp_122 kx_30 kx_2347 (by decide +kernel) rfl (by decide) (Nat.le_of_ble_eq_true rfl) rfl dX16_move_464 rfl (fun z19 S19 y19 => ?_)
      obtain ⟨rfl, V19, F19, m19, hc19⟩ := y19
      have M19 := (msK.rf hO : msK S S V V F F).trans m19
      rcases hc19 with ⟨ca19, cb19, cc19⟩ | ⟨ca19, cb19, cc19⟩
      · have w19 := cb19.trans v74
        refine ks_goto (tgt := 604) dX16_move_467 (by decide) ?_
        refine ks_ret rfl dX16_move_604 ?_
        refine ⟨rfl, ?_⟩
        exact ⟨V19, F19, (cpS 0 xs), ys, M19, cc19, Or.inl ⟨w19, by unfold mvS; rw [if_neg (by show ¬ xs.length < 1; omega)]; rfl⟩⟩
      · omega
    · refine ks_tableIn (off := 450) (tgt := 470) dX16_move_20 (by decide) (by decide) (by decide) (by decide) ?_
      have hn : 2 ≤ xs.length := h2
      rw [if_neg (by decide)]
      refine ks_aload_n dX16_move_470 rfl rfl ?_
      refine ks_iconst (x := nI 1) dX16_move_471 (by decide) rfl ?_
      refine ks_callV (n := 1) (M' := mX16_lift) (c_rs_lift (d := d + 2) hO hK (k := 1) (by omega)) hO cl_X16 rfl kx_2348 kx_2350 kxp_123 kx_30 kx_2351 (by decide +kernel) rfl (by decide) (Nat.le_of_ble_eq_true rfl) rfl dX16_move_472 rfl (fun z20 S20 y20 => ?_)
      obtain ⟨rfl, u20, r20⟩ := y20
      have m20 := msK.up (F := F) hO u20 (by decide) (by decide)
      have M20 := (msK.rf hO : msK S S V V F F).trans m20
      have ll := lfS_lq (k := 1) (xs := xs) (by omega)
      have u67_21 : V 67 = .int (nI (lfS 1 xs).length) := by obtain ⟨_, _, _, _, h9, _⟩ := r20; exact h9.2.2.1.1
      refine ks_aload_n dX16_move_475 rfl rfl ?_
      refine ks_dup dX16_move_476 rfl rfl ?_
      refine ks_getf (T := TX16) (kf := 67) kx_2435 rfl in_X16 cl_X16 (by decide) m20.2.1 rfl dX16_move_477 rfl ?_
      refine ks_tv u67_21 ?_
      refine ks_iconst (x := nI 1) dX16_move_480 (by decide) rfl ?_
      refine ks_subN (by omega) dX16_move_481 rfl ?_
      refine ks_putf (T := TX16) (kf := 67) kx_2435 rfl in_X16 tyX16_ok nmX16 cl_X16 (by decide) m20.2.1 (Nat.le_of_ble_eq_true rfl) rfl rfl rfl rfl dX16_move_482 rfl ?_
      refine md_put mdp_67 ?_
      refine ks_goto (tgt := 604) dX16_move_485 (by decide) ?_
      refine ks_ret rfl dX16_move_604 ?_
      obtain ⟨Q3, M3⟩ := rsQ.pop (k := 1) m20.2.1 r20
      exact ⟨rfl, _, _, (lfS 1 xs).drop 1, ys, M20.trans M3, Q3, Or.inl ⟨(va_up_ne _ _ (by decide)).trans v74, by unfold mvS; rw [if_neg (by show ¬ xs.length < 2; omega)]; rfl⟩⟩
    · refine ks_tableIn (off := 468) (tgt := 488) dX16_move_20 (by decide) (by decide) (by decide) (by decide) ?_
      have hn : 2 ≤ xs.length := h2
      rw [if_neg (by decide)]
      refine ks_aload_n dX16_move_488 rfl rfl ?_
      refine ks_iconst (x := nI 1) dX16_move_489 (by decide) rfl ?_
      refine ks_callV (n := 1) (M' := mX16_copy) (c_rs_copy (d := d) hO hK (k := 1) (by omega)) hO cl_X16 rfl kx_2344 kx_2346 kxp_122 kx_30 kx_2347 (by decide +kernel) rfl (by decide) (Nat.le_of_ble_eq_true rfl) rfl dX16_move_490 rfl (fun z22 S22 y22 => ?_)
      obtain ⟨rfl, V22, F22, m22, hc22⟩ := y22
      have M22 := (msK.rf hO : msK S S V V F F).trans m22
      rcases hc22 with ⟨ca22, cb22, cc22⟩ | ⟨ca22, cb22, cc22⟩
      · have w22 := cb22.trans v74
        refine ks_goto (tgt := 604) dX16_move_493 (by decide) ?_
        refine ks_ret rfl dX16_move_604 ?_
        refine ⟨rfl, ?_⟩
        exact ⟨V22, F22, (cpS 1 xs), ys, M22, cc22, Or.inl ⟨w22, by unfold mvS; rw [if_neg (by show ¬ xs.length < 2; omega)]; rfl⟩⟩
      · omega
    · refine ks_tableIn (off := 476) (tgt := 496) dX16_move_20 (by decide) (by decide) (by decide) (by decide) ?_
      have hn : 2 ≤ xs.length := h2
      rw [if_neg (by decide)]
      have u67_23 : V 67 = .int (nI xs.length) := by obtain ⟨_, _, _, _, h9, _⟩ := hK; exact h9.2.2.1.1
      refine ks_aload_n dX16_move_496 rfl rfl ?_
      refine ks_iconst (x := nI 0) dX16_move_497 (by decide) rfl ?_
      refine ks_iconst (x := nI 4) dX16_move_498 (by decide) rfl ?_
      refine ks_callV (n := 2) (M' := mX16_numberAt) (c_rs_numberAt (d := d + 2) hO hK (k := 0) (mo := 4) (by omega) (by decide)) hO cl_X16 rfl kx_2196 kx_2198 kxp_94 kx_30 kx_2199 (by decide +kernel) rfl (by decide) (Nat.le_of_ble_eq_true rfl) rfl dX16_move_499 rfl (fun z2 S2 y2 => ?_)
      obtain ⟨rfl, k1, k2⟩ := y2
      have em : mvS 121 xs ys = mnS true xs ys := by unfold mvS; rw [if_neg (by show ¬ xs.length < 2; omega)]; rfl
      rw [em]
      by_cases c4 : (xs.getD 0 []).length ≤ 4
      · have e3 := k1 c4
        obtain rfl := e3.symm
        rw [if_pos c4]
        obtain ⟨n, en⟩ : ∃ n, n = numV (xs.getD 0 []) := ⟨_, rfl⟩
        have nb9 := numV_b4 c4 (by obtain ⟨_, _, _, _, h9, _⟩ := hK; exact rsK_b h9 (by omega))
        rw [← en] at nb9 ⊢
        have u67 : V 67 = .int (nI xs.length) := by obtain ⟨_, _, _, _, h9, _⟩ := hK; exact h9.2.2.1.1
        refine ks_lstore dX16_move_502 (by decide) rfl ?_
        refine ks_sub [(6, _), (0, _), (1, _), (2, _)] rfl ?_
        refine ks_aload_n dX16_move_504 rfl rfl ?_
        refine ks_dup dX16_move_505 rfl rfl ?_
        refine ks_getf (T := TX16) (kf := 67) kx_2435 rfl in_X16 cl_X16 (by decide) hO rfl dX16_move_506 rfl ?_
        refine ks_tv u67 ?_
        refine ks_iconst (x := nI 1) dX16_move_509 (by decide) rfl ?_
        refine ks_subN (by omega) dX16_move_510 rfl ?_
        refine ks_putf (T := TX16) (kf := 67) kx_2435 rfl in_X16 tyX16_ok nmX16 cl_X16 (by decide) hO (Nat.le_of_ble_eq_true rfl) rfl rfl rfl rfl dX16_move_511 rfl ?_
        refine md_put mdp_67 ?_
        refine ks_aload_n dX16_move_514 rfl rfl ?_
        refine ks_getf (T := TX16) (kf := 74) kx_2442 rfl in_X16 cl_X16 (by decide) (ks_set_same _ _ _) rfl dX16_move_515 rfl ?_
        refine ks_tv ((va_up_ne _ _ (by decide)).trans v74) ?_
        refine ks_if_neZ (tgt := 539) dX16_move_518 (by decide) rfl (fun h4 => ?_) (fun h4 => ?_)
        · exact absurd h4 (by decide)
        · obtain ⟨Q3, M3⟩ := rsQ.pop (k := 1) hO hK
          have ld : (xs.drop 1).length = xs.length - 1 := List.length_drop
          refine ks_lload dX16_move_521 rfl rfl ?_
          refine ks_lconst (x := lN 0) dX16_move_523 (by decide) rfl ?_
          refine ks_lif_lt (tgt := 539) dX16_move_524 rfl dX16_move_525 (by decide) rfl (fun h5 => ?_) (fun h5 => ?_)
          · refine ks_aload_n dX16_move_539 rfl rfl ?_
            refine ks_iconst (x := nI 1) dX16_move_540 (by decide) rfl ?_
            refine ks_putf (T := TX16) (kf := 74) kx_2442 rfl in_X16 tyX16_ok nmX16 cl_X16 (by decide) (ks_set_same _ _ _) (Nat.le_of_ble_eq_true rfl) rfl rfl rfl rfl dX16_move_541 rfl ?_
            refine md_put mdp_74 ?_
            refine ks_goto (tgt := 604) dX16_move_544 (by decide) ?_
            refine ks_ret rfl dX16_move_604 ?_
            have n0 : n < 0 := (iL_lt (a := n) (b := 0) (by omega) (by omega) (by decide) (by decide)).mp h5
            obtain ⟨M4, Q4⟩ := msK.fail (ks_set_same _ _ _) Q3
            refine ⟨rfl, _, F, _, ys, M3.trans M4, Q4, Or.inr ⟨va_up_self _ _ _, fun q hq => ?_⟩⟩
            unfold mnS at hq
            rw [if_pos ⟨by omega, c4⟩, ← en, ld, if_neg (fun h => absurd h.1 (by omega))] at hq
            cases hq
          · have n0 : 0 ≤ n := Int.not_lt.mp (fun h => h5 ((iL_lt (a := n) (b := 0) (by omega) (by omega) (by decide) (by decide)).mpr h))
            obtain ⟨m, rfl⟩ : ∃ m : Nat, n = (m : Int) := ⟨n.toNat, by omega⟩
            rw [← lN_iL]
            refine ks_lload dX16_move_528 rfl rfl ?_
            refine ks_aload_n dX16_move_530 rfl rfl ?_
            refine ks_getf (T := TX16) (kf := 67) kx_2435 rfl in_X16 cl_X16 (by decide) (ks_set_same _ _ _) rfl dX16_move_531 rfl ?_
            refine ks_tv (va_up_self _ _ _) ?_
            refine ks_i2lN (by omega) dX16_move_534 rfl ?_
            refine ks_lif_ltN (tgt := 547) (by omega) (by omega) dX16_move_535 rfl dX16_move_536 (by decide) rfl (fun h6 => ?_) (fun h6 => ?_)
            · refine ks_iload_n dX16_move_547 rfl rfl ?_
              refine ks_bipush (x := nI 121) dX16_move_548 (by decide) rfl ?_
              refine ks_icmp_neN (tgt := 563) (by decide) (by decide) dX16_move_550 (by decide) rfl (fun h => absurd h (by decide)) (fun _ => ?_)
              have em2 : mnS true xs ys = some ((if true then cpS else lfS) m (xs.drop 1), ys) := by
                unfold mnS
                rw [if_pos ⟨by omega, c4⟩, ← en, ld, if_pos ⟨by omega, by omega⟩, Int.toNat_natCast]
              rw [em2]
              refine ks_aload_n dX16_move_553 rfl rfl ?_
              refine ks_lload dX16_move_554 rfl rfl ?_
              refine ks_l2iN dX16_move_556 rfl ?_
              refine ks_callV (n := 1) (M' := mX16_copy) (c_rs_copy (d := d) (ks_set_same _ _ _) Q3 (k := m) (by rw [ld]; omega)) (ks_set_same _ _ _) cl_X16 rfl kx_2344 kx_2346 kxp_122 kx_30 kx_2347 (by decide +kernel) rfl (by decide) (Nat.le_of_ble_eq_true rfl) rfl dX16_move_557 rfl (fun z24 S24 y24 => ?_)
              obtain ⟨rfl, V24, F24, m24, hc24⟩ := y24
              have M24 := M3.trans m24
              rcases hc24 with ⟨ca24, cb24, cc24⟩ | ⟨ca24, cb24, cc24⟩
              · have w24 := cb24.trans ((va_up_ne _ _ (by decide)).trans v74)
                refine ks_goto (tgt := 604) dX16_move_560 (by decide) ?_
                refine ks_ret rfl dX16_move_604 ?_
                refine ⟨rfl, ?_⟩
                exact ⟨V24, F24, (cpS m (xs.drop 1)), ys, M24, cc24, Or.inl ⟨w24, rfl⟩⟩
              · rw [ld] at ca24
                omega
            · refine ks_aload_n dX16_move_539 rfl rfl ?_
              refine ks_iconst (x := nI 1) dX16_move_540 (by decide) rfl ?_
              refine ks_putf (T := TX16) (kf := 74) kx_2442 rfl in_X16 tyX16_ok nmX16 cl_X16 (by decide) (ks_set_same _ _ _) (Nat.le_of_ble_eq_true rfl) rfl rfl rfl rfl dX16_move_541 rfl ?_
              refine md_put mdp_74 ?_
              refine ks_goto (tgt := 604) dX16_move_544 (by decide) ?_
              refine ks_ret rfl dX16_move_604 ?_
              obtain ⟨M4, Q4⟩ := msK.fail (ks_set_same _ _ _) Q3
              refine ⟨rfl, _, F, _, ys, M3.trans M4, Q4, Or.inr ⟨va_up_self _ _ _, fun q hq => ?_⟩⟩
              unfold mnS at hq
              rw [if_pos ⟨by omega, c4⟩, ← en, ld, if_neg (fun h => absurd h.2 (by omega))] at hq
              cases hq
      · have e3 := k2 c4
        obtain rfl := e3.symm
        rw [if_neg c4]
        obtain ⟨f1, f2⟩ := msK.fail hO hK
        have f67 : (va_up V 74 (.int (ks_bo true))) 67 = .int (nI xs.length) := by obtain ⟨_, _, _, _, h9, _⟩ := f2; exact h9.2.2.1.1
        rw [show iL 0 = lN 0 from rfl]
        refine ks_lstore dX16_move_502 (by decide) rfl ?_
        refine ks_sub [(6, _), (0, _), (1, _), (2, _)] rfl ?_
        refine ks_aload_n dX16_move_504 rfl rfl ?_
        refine ks_dup dX16_move_505 rfl rfl ?_
        refine ks_getf (T := TX16) (kf := 67) kx_2435 rfl in_X16 cl_X16 (by decide) f1.2.1 rfl dX16_move_506 rfl ?_
        refine ks_tv f67 ?_
        refine ks_iconst (x := nI 1) dX16_move_509 (by decide) rfl ?_
        refine ks_subN (by omega) dX16_move_510 rfl ?_
        refine ks_putf (T := TX16) (kf := 67) kx_2435 rfl in_X16 tyX16_ok nmX16 cl_X16 (by decide) f1.2.1 (Nat.le_of_ble_eq_true rfl) rfl rfl rfl rfl dX16_move_511 rfl ?_
        refine md_put mdp_67 ?_
        refine ks_aload_n dX16_move_514 rfl rfl ?_
        refine ks_getf (T := TX16) (kf := 74) kx_2442 rfl in_X16 cl_X16 (by decide) (ks_set_same _ _ _) rfl dX16_move_515 rfl ?_
        refine ks_tv ((va_up_ne _ _ (by decide)).trans (va_up_self _ _ _)) ?_
        refine ks_if_neZ (tgt := 539) dX16_move_518 (by decide) rfl (fun h4 => ?_) (fun h4 => ?_)
        · refine ks_aload_n dX16_move_539 rfl rfl ?_
          refine ks_iconst (x := nI 1) dX16_move_540 (by decide) rfl ?_
          refine ks_putf (T := TX16) (kf := 74) kx_2442 rfl in_X16 tyX16_ok nmX16 cl_X16 (by decide) (ks_set_same _ _ _) (Nat.le_of_ble_eq_true rfl) rfl rfl rfl rfl dX16_move_541 rfl ?_
          refine md_put mdp_74 ?_
          refine ks_goto (tgt := 604) dX16_move_544 (by decide) ?_
          refine ks_ret rfl dX16_move_604 ?_
          obtain ⟨Q3, M3⟩ := rsQ.pop (k := 1) f1.2.1 f2
          obtain ⟨M4, Q4⟩ := msK.fail (ks_set_same _ _ _) Q3
          refine ⟨rfl, _, F, _, ys, (f1.trans M3).trans M4, Q4, Or.inr ⟨va_up_self _ _ _, fun q hq => ?_⟩⟩
          unfold mnS at hq
          rw [if_neg (fun h => c4 h.2)] at hq
          cases hq
        · exact absurd h4 (by decide)
    · refine ks_tableIn (off := 476) (tgt := 496) dX16_move_20 (by decide) (by decide) (by decide) (by decide) ?_
      have hn : 2 ≤ xs.length := h2
      rw [if_neg (by decide)]
      have u67_25 : V 67 = .int (nI xs.length) := by obtain ⟨_, _, _, _, h9, _⟩ := hK; exact h9.2.2.1.1
      refine ks_aload_n dX16_move_496 rfl rfl ?_
      refine ks_iconst (x := nI 0) dX16_move_497 (by decide) rfl ?_
      refine ks_iconst (x := nI 4) dX16_move_498 (by decide) rfl ?_
      refine ks_callV (n := 2) (M' := mX16_numberAt) (c_rs_numberAt (d := d + 2) hO hK (k := 0) (mo := 4) (by omega) (by decide)) hO cl_X16 rfl kx_2196 kx_2198 kxp_94 kx_30 kx_2199 (by decide +kernel) rfl (by decide) (Nat.le_of_ble_eq_true rfl) rfl dX16_move_499 rfl (fun z2 S2 y2 => ?_)
      obtain ⟨rfl, k1, k2⟩ := y2
      have em : mvS 122 xs ys = mnS false xs ys := by unfold mvS; rw [if_neg (by show ¬ xs.length < 2; omega)]; rfl
      rw [em]
      by_cases c4 : (xs.getD 0 []).length ≤ 4
      · have e3 := k1 c4
        obtain rfl := e3.symm
        rw [if_pos c4]
        obtain ⟨n, en⟩ : ∃ n, n = numV (xs.getD 0 []) := ⟨_, rfl⟩
        have nb9 := numV_b4 c4 (by obtain ⟨_, _, _, _, h9, _⟩ := hK; exact rsK_b h9 (by omega))
        rw [← en] at nb9 ⊢
        have u67 : V 67 = .int (nI xs.length) := by obtain ⟨_, _, _, _, h9, _⟩ := hK; exact h9.2.2.1.1
        refine ks_lstore dX16_move_502 (by decide) rfl ?_
        refine ks_sub [(6, _), (0, _), (1, _), (2, _)] rfl ?_
        refine ks_aload_n dX16_move_504 rfl rfl ?_
        refine ks_dup dX16_move_505 rfl rfl ?_
        refine ks_getf (T := TX16) (kf := 67) kx_2435 rfl in_X16 cl_X16 (by decide) hO rfl dX16_move_506 rfl ?_
        refine ks_tv u67 ?_
        refine ks_iconst (x := nI 1) dX16_move_509 (by decide) rfl ?_
        refine ks_subN (by omega) dX16_move_510 rfl ?_
        refine ks_putf (T := TX16) (kf := 67) kx_2435 rfl in_X16 tyX16_ok nmX16 cl_X16 (by decide) hO (Nat.le_of_ble_eq_true rfl) rfl rfl rfl rfl dX16_move_511 rfl ?_
        refine md_put mdp_67 ?_
        refine ks_aload_n dX16_move_514 rfl rfl ?_
        refine ks_getf (T := TX16) (kf := 74) kx_2442 rfl in_X16 cl_X16 (by decide) (ks_set_same _ _ _) rfl dX16_move_515 rfl ?_
        refine ks_tv ((va_up_ne _ _ (by decide)).trans v74) ?_
        refine ks_if_neZ (tgt := 539) dX16_move_518 (by decide) rfl (fun h4 => ?_) (fun h4 => ?_)
        · exact absurd h4 (by decide)
        · obtain ⟨Q3, M3⟩ := rsQ.pop (k := 1) hO hK
          have ld : (xs.drop 1).length = xs.length - 1 := List.length_drop
          refine ks_lload dX16_move_521 rfl rfl ?_
          refine ks_lconst (x := lN 0) dX16_move_523 (by decide) rfl ?_
          refine ks_lif_lt (tgt := 539) dX16_move_524 rfl dX16_move_525 (by decide) rfl (fun h5 => ?_) (fun h5 => ?_)
          · refine ks_aload_n dX16_move_539 rfl rfl ?_
            refine ks_iconst (x := nI 1) dX16_move_540 (by decide) rfl ?_
            refine ks_putf (T := TX16) (kf := 74) kx_2442 rfl in_X16 tyX16_ok nmX16 cl_X16 (by decide) (ks_set_same _ _ _) (Nat.le_of_ble_eq_true rfl) rfl rfl rfl rfl dX16_move_541 rfl ?_
            refine md_put mdp_74 ?_
            refine ks_goto (tgt := 604) dX16_move_544 (by decide) ?_
            refine ks_ret rfl dX16_move_604 ?_
            have n0 : n < 0 := (iL_lt (a := n) (b := 0) (by omega) (by omega) (by decide) (by decide)).mp h5
            obtain ⟨M4, Q4⟩ := msK.fail (ks_set_same _ _ _) Q3
            refine ⟨rfl, _, F, _, ys, M3.trans M4, Q4, Or.inr ⟨va_up_self _ _ _, fun q hq => ?_⟩⟩
            unfold mnS at hq
            rw [if_pos ⟨by omega, c4⟩, ← en, ld, if_neg (fun h => absurd h.1 (by omega))] at hq
            cases hq
          · have n0 : 0 ≤ n := Int.not_lt.mp (fun h => h5 ((iL_lt (a := n) (b := 0) (by omega) (by omega) (by decide) (by decide)).mpr h))
            obtain ⟨m, rfl⟩ : ∃ m : Nat, n = (m : Int) := ⟨n.toNat, by omega⟩
            rw [← lN_iL]
            refine ks_lload dX16_move_528 rfl rfl ?_
            refine ks_aload_n dX16_move_530 rfl rfl ?_
            refine ks_getf (T := TX16) (kf := 67) kx_2435 rfl in_X16 cl_X16 (by decide) (ks_set_same _ _ _) rfl dX16_move_531 rfl ?_
            refine ks_tv (va_up_self _ _ _) ?_
            refine ks_i2lN (by omega) dX16_move_534 rfl ?_
            refine ks_lif_ltN (tgt := 547) (by omega) (by omega) dX16_move_535 rfl dX16_move_536 (by decide) rfl (fun h6 => ?_) (fun h6 => ?_)
            · refine ks_iload_n dX16_move_547 rfl rfl ?_
              refine ks_bipush (x := nI 121) dX16_move_548 (by decide) rfl ?_
              refine ks_icmp_neN (tgt := 563) (by decide) (by decide) dX16_move_550 (by decide) rfl (fun _ => ?_) (fun h => absurd h (by decide))
              have em2 : mnS false xs ys = some ((if false then cpS else lfS) m (xs.drop 1), ys) := by
                unfold mnS
                rw [if_pos ⟨by omega, c4⟩, ← en, ld, if_pos ⟨by omega, by omega⟩, Int.toNat_natCast]
              rw [em2]
              refine ks_aload_n dX16_move_563 rfl rfl ?_
              refine ks_lload dX16_move_564 rfl rfl ?_
              refine ks_l2iN dX16_move_566 rfl ?_
              refine ks_callV (n := 1) (M' := mX16_lift) (c_rs_lift (d := d + 2) (ks_set_same _ _ _) Q3 (k := m) (by rw [ld]; omega)) (ks_set_same _ _ _) cl_X16 rfl kx_2348 kx_2350 kxp_123 kx_30 kx_2351 (by decide +kernel) rfl (by decide) (Nat.le_of_ble_eq_true rfl) rfl dX16_move_567 rfl (fun z26 S26 y26 => ?_)
              obtain ⟨rfl, u26, r26⟩ := y26
              have m26 := msK.up (F := F) (ks_set_same _ _ _) u26 (by decide) (by decide)
              have M26 := M3.trans m26
              refine ks_goto (tgt := 604) dX16_move_570 (by decide) ?_
              refine ks_ret rfl dX16_move_604 ?_
              refine ⟨rfl, ?_⟩
              exact ⟨(va_up V 67 (.int (nI (xs.length - 1)))), F, (lfS m (xs.drop 1)), ys, M26, r26, Or.inl ⟨((va_up_ne _ _ (by decide)).trans v74), rfl⟩⟩
            · refine ks_aload_n dX16_move_539 rfl rfl ?_
              refine ks_iconst (x := nI 1) dX16_move_540 (by decide) rfl ?_
              refine ks_putf (T := TX16) (kf := 74) kx_2442 rfl in_X16 tyX16_ok nmX16 cl_X16 (by decide) (ks_set_same _ _ _) (Nat.le_of_ble_eq_true rfl) rfl rfl rfl rfl dX16_move_541 rfl ?_
              refine md_put mdp_74 ?_
              refine ks_goto (tgt := 604) dX16_move_544 (by decide) ?_
              refine ks_ret rfl dX16_move_604 ?_
              obtain ⟨M4, Q4⟩ := msK.fail (ks_set_same _ _ _) Q3
              refine ⟨rfl, _, F, _, ys, M3.trans M4, Q4, Or.inr ⟨va_up_self _ _ _, fun q hq => ?_⟩⟩
              unfold mnS at hq
              rw [if_pos ⟨by omega, c4⟩, ← en, ld, if_neg (fun h => absurd h.2 (by omega))] at hq
              cases hq
      · have e3 := k2 c4
        obtain rfl := e3.symm
        rw [if_neg c4]
        obtain ⟨f1, f2⟩ := msK.fail hO hK
        have f67 : (va_up V 74 (.int (ks_bo true))) 67 = .int (nI xs.length) := by obtain ⟨_, _, _, _, h9, _⟩ := f2; exact h9.2.2.1.1
        rw [show iL 0 = lN 0 from rfl]
        refine ks_lstore dX16_move_502 (by decide) rfl ?_
        refine ks_sub [(6, _), (0, _), (1, _), (2, _)] rfl ?_
        refine ks_aload_n dX16_move_504 rfl rfl ?_
        refine ks_dup dX16_move_505 rfl rfl ?_
        refine ks_getf (T := TX16) (kf := 67) kx_2435 rfl in_X16 cl_X16 (by decide) f1.2.1 rfl dX16_move_506 rfl ?_
        refine ks_tv f67 ?_
        refine ks_iconst (x := nI 1) dX16_move_509 (by decide) rfl ?_
        refine ks_subN (by omega) dX16_move_510 rfl ?_
        refine ks_putf (T := TX16) (kf := 67) kx_2435 rfl in_X16 tyX16_ok nmX16 cl_X16 (by decide) f1.2.1 (Nat.le_of_ble_eq_true rfl) rfl rfl rfl rfl dX16_move_511 rfl ?_
        refine md_put mdp_67 ?_
        refine ks_aload_n dX16_move_514 rfl rfl ?_
        refine ks_getf (T := TX16) (kf := 74) kx_2442 rfl in_X16 cl_X16 (by decide) (ks_set_same _ _ _) rfl dX16_move_515 rfl ?_
        refine ks_tv ((va_up_ne _ _ (by decide)).trans (va_up_self _ _ _)) ?_
        refine ks_if_neZ (tgt := 539) dX16_move_518 (by decide) rfl (fun h4 => ?_) (fun h4 => ?_)
        · refine ks_aload_n dX16_move_539 rfl rfl ?_
          refine ks_iconst (x := nI 1) dX16_move_540 (by decide) rfl ?_
          refine ks_putf (T := TX16) (kf := 74) kx_2442 rfl in_X16 tyX16_ok nmX16 cl_X16 (by decide) (ks_set_same _ _ _) (Nat.le_of_ble_eq_true rfl) rfl rfl rfl rfl dX16_move_541 rfl ?_
          refine md_put mdp_74 ?_
          refine ks_goto (tgt := 604) dX16_move_544 (by decide) ?_
          refine ks_ret rfl dX16_move_604 ?_
          obtain ⟨Q3, M3⟩ := rsQ.pop (k := 1) f1.2.1 f2
          obtain ⟨M4, Q4⟩ := msK.fail (ks_set_same _ _ _) Q3
          refine ⟨rfl, _, F, _, ys, (f1.trans M3).trans M4, Q4, Or.inr ⟨va_up_self _ _ _, fun q hq => ?_⟩⟩
          unfold mnS at hq
          rw [if_neg (fun h => c4 h.2)] at hq
          cases hq
        · exact absurd h4 (by decide)
    · refine ks_tableIn (off := 553) (tgt := 573) dX16_move_20 (by decide) (by decide) (by decide) (by decide) ?_
      have hn : 3 ≤ xs.length := h2
      rw [if_neg (by decide)]
      refine ks_aload_n dX16_move_573 rfl rfl ?_
      refine ks_iconst (x := nI 2) dX16_move_574 (by decide) rfl ?_
      refine ks_callV (n := 1) (M' := mX16_lift) (c_rs_lift (d := d + 2) hO hK (k := 2) (by omega)) hO cl_X16 rfl kx_2348 kx_2350 kxp_123 kx_30 kx_2351 (by decide +kernel) rfl (by decide) (Nat.le_of_ble_eq_true rfl) rfl dX16_move_575 rfl (fun z27 S27 y27 => ?_)
      obtain ⟨rfl, u27, r27⟩ := y27
      have m27 := msK.up (F := F) hO u27 (by decide) (by decide)
      have M27 := (msK.rf hO : msK S S V V F F).trans m27
      refine ks_goto (tgt := 604) dX16_move_578 (by decide) ?_
      refine ks_ret rfl dX16_move_604 ?_
      refine ⟨rfl, ?_⟩
      exact ⟨V, F, (lfS 2 xs), ys, M27, r27, Or.inl ⟨v74, by unfold mvS; rw [if_neg (by show ¬ xs.length < 3; omega)]; rfl⟩⟩
    · refine ks_tableIn (off := 561) (tgt := 581) dX16_move_20 (by decide) (by decide) (by decide) (by decide) ?_
      have hn : 2 ≤ xs.length := h2
      rw [if_neg (by decide)]
      refine ks_aload_n dX16_move_581 rfl rfl ?_
      refine ks_iconst (x := nI 1) dX16_move_582 (by decide) rfl ?_
      refine ks_callV (n := 1) (M' := mX16_lift) (c_rs_lift (d := d + 2) hO hK (k := 1) (by omega)) hO cl_X16 rfl kx_2348 kx_2350 kxp_123 kx_30 kx_2351 (by decide +kernel) rfl (by decide) (Nat.le_of_ble_eq_true rfl) rfl dX16_move_583 rfl (fun z28 S28 y28 => ?_)
      obtain ⟨rfl, u28, r28⟩ := y28
      have m28 := msK.up (F := F) hO u28 (by decide) (by decide)
      have M28 := (msK.rf hO : msK S S V V F F).trans m28
      refine ks_goto (tgt := 604) dX16_move_586 (by decide) ?_
      refine ks_ret rfl dX16_move_604 ?_
      refine ⟨rfl, ?_⟩
      exact ⟨V, F, (lfS 1 xs), ys, M28, r28, Or.inl ⟨v74, by unfold mvS; rw [if_neg (by show ¬ xs.length < 2; omega)]; rfl⟩⟩
    · refine ks_tableOut (tgt := 589) dX16_move_20 ((show ∀ q, q < 256 → (q < 105 ∨ 124 < q) → ((nI q).toInt < 105 ∨ 124 < (nI q).toInt) by decide +kernel) _ hop hsw) (by decide) ?_
      obtain rfl : op = 125 := by omega
      have hn : 2 ≤ xs.length := h2
      rw [if_neg (by decide)]
      refine ks_aload_n dX16_move_589 rfl rfl ?_
      refine ks_iconst (x := nI 0) dX16_move_590 (by decide) rfl ?_
      refine ks_callV (n := 1) (M' := mX16_copy) (c_rs_copy (d := d) hO hK (k := 0) (by omega)) hO cl_X16 rfl kx_2344 kx_2346 kxp_122 kx_30 kx_2347 (by decide +kernel) rfl (by decide) (Nat.le_of_ble_eq_true rfl) rfl dX16_move_591 rfl (fun z29 S29 y29 => ?_)
      obtain ⟨rfl, V29, F29, m29, hc29⟩ := y29
      have M29 := (msK.rf hO : msK S S V V F F).trans m29
      rcases hc29 with ⟨ca29, cb29, cc29⟩ | ⟨ca29, cb29, cc29⟩
      · have w29 := cb29.trans v74
        refine ks_aload_n dX16_move_594 rfl rfl ?_
        refine ks_iconst (x := nI 2) dX16_move_595 (by decide) rfl ?_
        refine ks_callV (n := 1) (M' := mX16_lift) (c_rs_lift (d := d + 2) m29.2.1 cc29 (k := 2) (by show 2 < xs.length + 1; omega)) m29.2.1 cl_X16 rfl kx_2348 kx_2350 kxp_123 kx_30 kx_2351 (by decide +kernel) rfl (by decide) (Nat.le_of_ble_eq_true rfl) rfl dX16_move_596 rfl (fun z30 S30 y30 => ?_)
        obtain ⟨rfl, u30, r30⟩ := y30
        have m30 := msK.up (F := F29) m29.2.1 u30 (by decide) (by decide)
        have M30 := M29.trans m30
        refine ks_aload_n dX16_move_599 rfl rfl ?_
        refine ks_iconst (x := nI 2) dX16_move_600 (by decide) rfl ?_
        refine ks_callV (n := 1) (M' := mX16_lift) (c_rs_lift (d := d + 2) m30.2.1 r30 (k := 2) (by rw [lfS_lq (by show 2 < xs.length + 1; omega)]; show 2 < xs.length + 1; omega)) m30.2.1 cl_X16 rfl kx_2348 kx_2350 kxp_123 kx_30 kx_2351 (by decide +kernel) rfl (by decide) (Nat.le_of_ble_eq_true rfl) rfl dX16_move_601 rfl (fun z31 S31 y31 => ?_)
        obtain ⟨rfl, u31, r31⟩ := y31
        have m31 := msK.up (F := F29) m30.2.1 u31 (by decide) (by decide)
        have M31 := M30.trans m31
        refine ks_ret rfl dX16_move_604 ?_
        refine ⟨rfl, ?_⟩
        exact ⟨V29, F29, (lfS 2 (lfS 2 (cpS 0 xs))), ys, M31, r31, Or.inl ⟨w29, by rw [tuck hn]; unfold mvS; rw [if_neg (by show ¬ xs.length < 2; omega)]; rfl⟩⟩
      · omega
  · refine ks_ret rfl dX16_move_18 ?_
    have h2 := of_decide_eq_false h1
    have e2 := n2 h2
    obtain rfl := e2.symm
    obtain ⟨f1, f2⟩ := msK.fail hO hK
    refine ⟨rfl, _, F, xs, ys, f1, f2, Or.inr ⟨va_up_self _ _ _, fun q hq => ?_⟩⟩
    rcases hop1 with rfl | ⟨ha, hb⟩
    · have x0 : xs = [] := List.length_eq_zero_iff.mp (by have : nedR (105 - 105) = 1 := rfl; omega)
      rw [if_pos rfl, x0] at hq
      cases hq
    · rw [if_neg (by omega)] at hq
      unfold mvS at hq
      rw [if_pos (by rw [← nedR_nd op (by omega) ha]; omega)] at hq
      cases hq
