/-! THE JUDGE: drawing a block -/
def idG (Ds : Nat → dTx) : Nat → Nat := fun j => txI (Ds (j / 32)) (j % 32)
def catT (Ds : Nat → dTx) : Nat → List Nat
  | 0 => []
  | t + 1 => catT Ds t ++ txL (Ds t)
/-- the root that is written -/
def drR (md : Nat) (Ds : Nat → dTx) (dc : Nat) : Nat → Nat := fun j => if md = 1 ∧ j = 0 then (1 + root_ (idG Ds) dc 0) % 256 else root_ (idG Ds) dc j
def drH (md : Nat) (hs : List Nat) (dt : Int64) (bt : Int32) (Ds : Nat → dTx) (dc : Nat) : List Nat := numL (if md = 4 then lN 2 else lN 1) 4 ++ (if md = 5 then bytL (fun _ => 0) 0 32 else hs) ++ bytL (drR md Ds dc) 0 32 ++ numL dt 4 ++ numL (if md = 2 then (bt - 1).toInt64 else bt.toInt64) 4 ++ numL (lN 0) 4
def drC (pre : List Nat) (Ds : Nat → dTx) (t : Nat) : Option (List Nat) := if (pre ++ catT Ds t).length ≤ 1600 then some (pre ++ catT Ds t) else none
theorem drC_s (pre : List Nat) (Ds : Nat → dTx) (t : Nat) : bfA (drC pre Ds t) 1600 (txL (Ds t)) = drC pre Ds (t + 1) := by
  unfold drC
  rw [show catT Ds (t + 1) = catT Ds t ++ txL (Ds t) from rfl, ← List.append_assoc]
  by_cases h : (pre ++ catT Ds t).length ≤ 1600
  · rw [if_pos h]
    show (if (pre ++ catT Ds t).length + (txL (Ds t)).length ≤ 1600 then some (pre ++ catT Ds t ++ txL (Ds t)) else none) = _
    by_cases h2 : (pre ++ catT Ds t).length + (txL (Ds t)).length ≤ 1600
    · rw [if_pos h2, if_pos (by rw [List.length_append]; exact h2)]
    · rw [if_neg h2, if_neg (by rw [List.length_append]; exact h2)]
  · rw [if_neg h, if_neg (by rw [List.length_append]; omega)]
    rfl
theorem bfA_ok {m x : List Nat} {N : Nat} (h : m.length + x.length ≤ N) : bfA (some m) N x = some (m ++ x) := by
  unfold bfA
  simp [h]
theorem bytL_c {f g : Nat → Nat} {i j n : Nat} (h : ∀ k, k < n → f (i + k) = g (j + k)) : bytL f i n = bytL g j n := by
  unfold bytL
  exact List.map_congr_left (fun k hk => h k (List.mem_range.mp hk))
abbrev LDn : List Nat := [5, 6, 9, 8, 10, 11, 12, 53]
abbrev LDr : List Nat := [3, 4, 5, 6, 9, 8, 10, 11, 12, 13, 53, 54]
theorem ldr_c : ∀ x ∈ LDr, x < 52 ∨ x = 53 ∨ x = 54 ∨ x = 55 ∨ 283 < x := by decide
set_option maxRecDepth 100000 in
set_option maxHeartbeats 800000 in
theorem l_drNames {l : Launch} {G : ks_G} {d : Nat} {S : ks_S} {dc dp y : Nat} {dt : Int64} {rs bt : Int32} {md : Nat} {Ds : Nat → dTx} (h0 : S.2.2 0 = some (jdO dc dp dt rs)) (hD : dfS S Ds) (hdc : dc ≤ 12) (hK : ks_stOK S) {P : Option Value → ks_S → Prop} (hk : ∀ (S2 : ks_S) (gi : Nat → Nat), ks_up S S2 LDn → hsO S2 → (∃ ow, bfS S2 5 6 8000 ow) → S2.2.2 53 = some (kB 384 gi) → kO gi → (∀ j, j < 32 * dc → gi j = idG Ds j) → ks_X l G mX11_draw (d + 6) 33 [(0, .ref 0), (1, .int (nI md)), (2, .ref y), (3, .int bt)] [] S2 P) : ∀ (u t : Nat) (S1 : ks_S) (gi : Nat → Nat), t + u = dc → ks_up S S1 LDn → hsO S1 → (∃ ow, bfS S1 5 6 8000 ow) → S1.2.2 53 = some (kB 384 gi) → kO gi → (∀ j, j < 32 * t → gi j = idG Ds j) → ks_X l G mX11_draw (d + 6) 3 [(0, .ref 0), (1, .int (nI md)), (2, .ref y), (3, .int bt), (4, .int (nI t))] [] S1 P := by
  intro u
  induction u with
  | zero =>
    intro t S1 gi htu hu hh1 ⟨ow, W1⟩ e53 kgi hgi
    have a0 : S1.2.2 0 = some (.inr (14, [.ref 1, .ref 3, .ref 5, .ref 7, .ref 14, .ref 20, .ref 27, .ref 41, .ref 52, .ref 53, .ref 54, .ref 55, .int (nI dc), .int (nI dp), .long dt, .int rs])) := hu.at h0 (by decide)
    have K1 := hu.st hK (by unfold ks_B; decide)
    have D1 := hD.up hu (by decide)
    refine ks_iload dX11_draw_3 rfl rfl ?_
    refine ks_aload_n dX11_draw_5 rfl rfl ?_
    refine ks_getf (T := TX11) (kf := 12) kx_1065 rfl in_X11 cl_X11 (by decide) a0 rfl dX11_draw_6 rfl ?_
    refine ks_icmp_geN (tgt := 33) (by omega) (by omega) dX11_draw_9 (by decide) rfl (fun h1 => ?_) (fun h1 => ?_)
    · refine ks_sub [(0, _), (1, _), (2, _), (3, _)] rfl ?_
      obtain rfl : t = dc := by omega
      exact ks_sub [(0, _), (1, _), (2, _), (3, _)] rfl (hk S1 gi hu hh1 ⟨ow, W1⟩ e53 kgi hgi)
    · omega
  | succ u ih =>
    intro t S1 gi htu hu hh1 ⟨ow, W1⟩ e53 kgi hgi
    have a0 : S1.2.2 0 = some (.inr (14, [.ref 1, .ref 3, .ref 5, .ref 7, .ref 14, .ref 20, .ref 27, .ref 41, .ref 52, .ref 53, .ref 54, .ref 55, .int (nI dc), .int (nI dp), .long dt, .int rs])) := hu.at h0 (by decide)
    have K1 := hu.st hK (by unfold ks_B; decide)
    have D1 := hD.up hu (by decide)
    refine ks_iload dX11_draw_3 rfl rfl ?_
    refine ks_aload_n dX11_draw_5 rfl rfl ?_
    refine ks_getf (T := TX11) (kf := 12) kx_1065 rfl in_X11 cl_X11 (by decide) a0 rfl dX11_draw_6 rfl ?_
    refine ks_icmp_geN (tgt := 33) (by omega) (by omega) dX11_draw_9 (by decide) rfl (fun h1 => ?_) (fun h1 => ?_)
    · omega
    · refine ks_aload_n dX11_draw_12 rfl rfl ?_
      refine ks_iload dX11_draw_13 rfl rfl ?_
      refine ks_aload_n dX11_draw_15 rfl rfl ?_
      refine ks_getf (T := TX11) (kf := 9) kx_1062 rfl in_X11 cl_X11 (by decide) a0 rfl dX11_draw_16 rfl ?_
      refine ks_bipush (x := nI 32) dX11_draw_19 (by decide) rfl ?_
      refine ks_iload dX11_draw_21 rfl rfl ?_
      refine ks_mulN dX11_draw_23 rfl ?_
      refine ks_callV (n := 3) (M' := mX11_nameDraft) (c_jd_nameDraft (d := d) (q := 32 * t) a0 D1 (by omega) W1 hh1 K1 e53 kgi (by omega) (by decide) (Or.inl rfl)) a0 cl_X11 rfl kx_858 kx_860 kxp_7 kx_1 kx_861 (by decide +kernel) rfl (by decide) (Nat.le_of_ble_eq_true rfl) rfl dX11_draw_24 rfl (fun z1 T1 y1 => ?_)
      obtain ⟨rfl, w1, hh2, W2, e53b⟩ := y1
      refine ks_incN (c := 1) (e := t + 1) dX11_draw_27 rfl (by decide) rfl (by decide) rfl ?_
      refine ks_sub [(4, _), (0, _), (1, _), (2, _), (3, _)] rfl ?_
      refine ks_goto (tgt := 3) dX11_draw_30 (by decide) ?_
      exact ks_sub [(0, _), (1, _), (2, _), (3, _), (4, _)] rfl (ih (t + 1) T1 _ (by omega) (hu.trans (w1.mono (by decide))) hh2 ⟨_, W2⟩ e53b (kO_pt (kO_twice _ _) kgi _ _) (fun j hj => by
        unfold ks_pt
        by_cases hj2 : j < 32 * t
        · rw [if_neg (by omega)]; exact hgi j hj2
        · rw [if_pos (by omega)]
          unfold idG
          rw [show j / 32 = t by omega, show j - 32 * t = j % 32 by omega]))
set_option maxRecDepth 100000 in
set_option maxHeartbeats 800000 in
theorem l_drLoop {l : Launch} {G : ks_G} {d : Nat} {S : ks_S} {dc dp y : Nat} {dt : Int64} {rs bt : Int32} {md : Nat} {Ds : Nat → dTx} (h0 : S.2.2 0 = some (jdO dc dp dt rs)) (hD : dfS S Ds) (hdc : dc ≤ 12) (hK : ks_stOK S) {pre : List Nat} {P : Option Value → ks_S → Prop} (hk : ∀ S2 : ks_S, ks_up S S2 [3, 4, 5, 6] → (∃ ow, bfS S2 5 6 8000 ow) → bfS S2 3 4 1600 (drC pre Ds dc) → P none S2) : ∀ (u t : Nat) (S1 : ks_S), t + u = dc → ks_up S S1 [3, 4, 5, 6] → (∃ ow, bfS S1 5 6 8000 ow) → bfS S1 3 4 1600 (drC pre Ds t) → ks_X l G mX11_draw (d + 6) 189 [(0, .ref 0), (1, .int (nI md)), (2, .ref y), (3, .int bt), (4, .int (nI t))] [] S1 P := by
  intro u
  induction u with
  | zero =>
    intro t S1 htu hu ⟨ow, W1⟩ B1
    have a0 : S1.2.2 0 = some (.inr (14, [.ref 1, .ref 3, .ref 5, .ref 7, .ref 14, .ref 20, .ref 27, .ref 41, .ref 52, .ref 53, .ref 54, .ref 55, .int (nI dc), .int (nI dp), .long dt, .int rs])) := hu.at h0 (by decide)
    have D1 := hD.up hu (by decide)
    obtain ⟨lw, gw, -, -, -, h5, -⟩ := id W1
    refine ks_iload dX11_draw_189 rfl rfl ?_
    refine ks_aload_n dX11_draw_191 rfl rfl ?_
    refine ks_getf (T := TX11) (kf := 12) kx_1065 rfl in_X11 cl_X11 (by decide) a0 rfl dX11_draw_192 rfl ?_
    refine ks_icmp_geN (tgt := 247) (by omega) (by omega) dX11_draw_195 (by decide) rfl (fun h1 => ?_) (fun h1 => ?_)
    · refine ks_ret rfl dX11_draw_247 ?_
      obtain rfl : t = dc := by omega
      exact hk S1 hu ⟨ow, W1⟩ B1
    · omega
  | succ u ih =>
    intro t S1 htu hu ⟨ow, W1⟩ B1
    have a0 : S1.2.2 0 = some (.inr (14, [.ref 1, .ref 3, .ref 5, .ref 7, .ref 14, .ref 20, .ref 27, .ref 41, .ref 52, .ref 53, .ref 54, .ref 55, .int (nI dc), .int (nI dp), .long dt, .int rs])) := hu.at h0 (by decide)
    have D1 := hD.up hu (by decide)
    obtain ⟨lw, gw, -, -, -, h5, -⟩ := id W1
    refine ks_iload dX11_draw_189 rfl rfl ?_
    refine ks_aload_n dX11_draw_191 rfl rfl ?_
    refine ks_getf (T := TX11) (kf := 12) kx_1065 rfl in_X11 cl_X11 (by decide) a0 rfl dX11_draw_192 rfl ?_
    refine ks_icmp_geN (tgt := 247) (by omega) (by omega) dX11_draw_195 (by decide) rfl (fun h1 => ?_) (fun h1 => ?_)
    · omega
    · refine ks_aload_n dX11_draw_198 rfl rfl ?_
      refine ks_getf (T := TX11) (kf := 2) kx_1055 rfl in_X11 cl_X11 (by decide) a0 rfl dX11_draw_199 rfl ?_
      refine ks_callV (n := 0) (M' := mX1_clear) (bf_clear (d := d + 5) W1) h5 cl_X1 rfl kx_842 kx_843 kx_844 kx_2 kx_845 (by decide +kernel) rfl (by decide) (Nat.le_of_ble_eq_true rfl) rfl dX11_draw_202 rfl (fun z1 T1 y1 => ?_)
      obtain ⟨rfl, w1, C1⟩ := y1
      have b0 := w1.at a0 (by decide)
      have D2 := D1.up w1 (by decide)
      have h52 := D2.1
      have hx1 := D2.2 t (by omega)
      have hle := txL_le hx1
      obtain ⟨xk, xm, xsz, xid, xix, xsq, xvl, xsc, xU, -⟩ := id hx1
      have xO := xU.1
      have B2 := B1.up w1 (by decide) (by decide)
      refine ks_aload_n dX11_draw_205 rfl rfl ?_
      refine ks_getf (T := TX11) (kf := 8) kx_1061 rfl in_X11 cl_X11 (by decide) b0 rfl dX11_draw_206 rfl ?_
      refine ks_iload dX11_draw_209 rfl rfl ?_
      refine ks_aaldN (i := t) (b := (56 + 19 * t)) (by decide) h52 rfl (by omega) (by decide) (if_pos (by omega)) dX11_draw_211 rfl ?_
      refine ks_aload_n dX11_draw_212 rfl rfl ?_
      refine ks_getf (T := TX11) (kf := 2) kx_1055 rfl in_X11 cl_X11 (by decide) b0 rfl dX11_draw_213 rfl ?_
      refine ks_callV (n := 1) (M' := mX4_write) (c_write (d := d + 3) hx1 (by omega) (by decide) C1 (by rw [List.length_nil]; omega)) xO cl_X4 rfl kx_862 kx_863 kx_864 kx_28 kx_865 (by decide +kernel) rfl (by decide) (Nat.le_of_ble_eq_true rfl) rfl dX11_draw_216 rfl (fun z2 T2 y2 => ?_)
      obtain ⟨rfl, w2, C2⟩ := y2
      rw [List.nil_append] at C2
      have c0 := w2.at b0 (by decide)
      have B3 := B2.up w2 (by decide) (by decide)
      obtain ⟨lw2, gw2, kg2, lw8, a6, a5, ⟨hl2, hg2⟩⟩ := id C2
      obtain ⟨ld, gd, -, -, -, a3, -⟩ := id B3
      refine ks_aload_n dX11_draw_219 rfl rfl ?_
      refine ks_getf (T := TX11) (kf := 1) kx_1054 rfl in_X11 cl_X11 (by decide) c0 rfl dX11_draw_220 rfl ?_
      refine ks_aload_n dX11_draw_223 rfl rfl ?_
      refine ks_getf (T := TX11) (kf := 2) kx_1055 rfl in_X11 cl_X11 (by decide) c0 rfl dX11_draw_224 rfl ?_
      refine ks_getf (T := TX1) (kf := 0) kx_54 rfl in_X1 cl_X1 (by decide) a5 rfl dX11_draw_227 rfl ?_
      refine ks_iconst (x := nI 0) dX11_draw_230 (by decide) rfl ?_
      refine ks_aload_n dX11_draw_231 rfl rfl ?_
      refine ks_getf (T := TX11) (kf := 2) kx_1055 rfl in_X11 cl_X11 (by decide) c0 rfl dX11_draw_232 rfl ?_
      refine ks_getf (T := TX1) (kf := 1) kx_59 rfl in_X1 cl_X1 (by decide) a5 rfl dX11_draw_235 rfl ?_
      refine ks_callV (n := 3) (M' := mX1_addBytes) (bf_bytes (d := d + 4) (i := 0) (n := lw2) B3 (by decide) a6 kg2 (by omega) (by decide)) a3 cl_X1 rfl kx_910 kx_872 kx_873 kx_2 kx_874 (by decide +kernel) rfl (by decide) (Nat.le_of_ble_eq_true rfl) rfl dX11_draw_238 rfl (fun z3 T3 y3 => ?_)
      obtain ⟨rfl, w3, B4⟩ := y3
      have eb : bytL gw2 0 lw2 = txL (Ds t) := by
        rw [← hl2]
        refine List.ext_getElem (by rw [bytL_len]) (fun k h1 h2 => ?_)
        simp only [bytL, List.getElem_map, List.getElem_range, Nat.zero_add]
        rw [hg2 k (by omega)]
        simp [List.getD, h2]
      rw [eb, drC_s] at B4
      have u3 := ((hu.trans (w1.mono (by decide))).trans (w2.mono (by decide))).trans (w3.mono (by decide))
      refine ks_incN (c := 1) (e := t + 1) dX11_draw_241 rfl (by decide) rfl (by decide) rfl ?_
      refine ks_sub [(4, _), (0, _), (1, _), (2, _), (3, _)] rfl ?_
      refine ks_goto (tgt := 189) dX11_draw_244 (by decide) ?_
      exact ks_sub [(0, _), (1, _), (2, _), (3, _), (4, _)] rfl (ih (t + 1) T3 (by omega) u3 ⟨_, C2.up w3 (by decide) (by decide)⟩ B4)
