/-! TXVIEW: writeSigned (into image 39, 40; the code in clean 37, 38) -/
def tvX (S : ks_S) (y : Nat) (g : Nat → Nat) (L b k p m u e : Nat) (fA fS fZ hA hS hZ : Nat → Nat) : Prop := S.2.2 20 = some (tvO y (.int (nI k)) (.int (nI m)) (.int (nI b)) (.int (nI e))) ∧ S.2.2 21 = some (kN 40 fA) ∧ S.2.2 22 = some (kN 40 fS) ∧ S.2.2 23 = some (kN 40 fZ) ∧ S.2.2 24 = some (kN 180 hA) ∧ S.2.2 25 = some (kN 180 hS) ∧ S.2.2 26 = some (kN 180 hZ) ∧ tx_ g b L = some (k, p, m, u, e) ∧ (∀ i, i < k → fA i = iA g L p i ∧ fS i = iS g L p i ∧ fZ i = iZ g L p i) ∧ (∀ i, i < m → hA i = oA g L u i ∧ hS i = oS g L u i ∧ hZ i = oZ g L u i)
theorem tv_ok.x {S : ks_S} {y : Nat} {g : Nat → Nat} {L b k p m u e : Nat} (h : tv_ok S y g L b k p m u e) : ∃ fA fS fZ hA hS hZ, tvX S y g L b k p m u e fA fS fZ hA hS hZ := by
  obtain ⟨fA, fS, fZ, hA, hS, hZ, c1, c2, c3, c4, c5, c6, c7, c8⟩ := tv_get h
  exact ⟨fA, fS, fZ, hA, hS, hZ, h.1, c1, c2, c3, c4, c5, c6, h.2.1, c7, c8⟩
theorem tvX.up {S S1 : ks_S} {y : Nat} {g : Nat → Nat} {L b k p m u e : Nat} {fA fS fZ hA hS hZ : Nat → Nat} {L9 : List Nat} (h : tvX S y g L b k p m u e fA fS fZ hA hS hZ) (hu : ks_up S S1 L9) (hn : (20 ∉ L9 ∧ 21 ∉ L9 ∧ 22 ∉ L9 ∧ 23 ∉ L9) ∧ 24 ∉ L9 ∧ 25 ∉ L9 ∧ 26 ∉ L9) : tvX S1 y g L b k p m u e fA fS fZ hA hS hZ := by
  obtain ⟨a, c1, c2, c3, c4, c5, c6, c7⟩ := h
  exact ⟨hu.at a hn.1.1, hu.at c1 hn.1.2.1, hu.at c2 hn.1.2.2.1, hu.at c3 hn.1.2.2.2, hu.at c4 hn.2.1, hu.at c5 hn.2.2.1, hu.at c6 hn.2.2.2, c7⟩
def sgIn (g : Nat → Nat) (L p inp kd : Nat) (code : List Nat) (i : Nat) : List Nat := bytL g (iA g L p i) 36 ++ cntL (if i = inp then code.length else 0) ++ (if i = inp then code else []) ++ (if ¬ i = inp ∧ (kd = 2 ∨ kd = 3) then numL 0 4 else bytL g (iS g L p i + iZ g L p i) 4)
def sgOut (g : Nat → Nat) (L u inp kd : Nat) (i : Nat) : List Nat := if kd = 3 ∧ i < inp then numL (-1) 8 ++ cntL 0 else bytL g (oA g L u i) (oS g L u i + oZ g L u i - oA g L u i)
def sgSh (m inp kd : Nat) : Nat := if kd = 2 then 0 else if kd = 3 then inp + 1 else m
def sgAl (ty : Nat) : Bool := decide (ty / 128 % 2 = 1)
def sgI0 (inp : Nat) (al : Bool) : Nat := if al then inp else 0
def sgN (k : Nat) (al : Bool) : Nat := if al then 1 else k
/-- the bytes that are signed for an input -/
def sgL (g : Nat → Nat) (L b k p m u e inp ty : Nat) (code : List Nat) : List Nat := bytL g b 4 ++ cntL (sgN k (sgAl ty)) ++ catL (sgIn g L p inp (ty % 32) code) ((List.range (sgN k (sgAl ty))).map (sgI0 inp (sgAl ty) + ·)) ++ cntL (sgSh m inp (ty % 32)) ++ catL (sgOut g L u inp (ty % 32)) ((List.range (sgSh m inp (ty % 32))).map (0 + ·)) ++ bytL g (e - 4) 4 ++ numL (lN ty) 4
theorem bfS.ob {S : ks_S} {b a N : Nat} {m : List Nat} (h : bfS S b a N (some m)) : S.2.2 b = some (.inr (4, [.ref a, .int (nI m.length), .int 0])) := by
  obtain ⟨len, g, c1, c2, c3, c4, c5, c6⟩ := h
  rw [c5]
  exact c4
theorem sg_bit : ∀ ty, ty < 256 → (nI ty &&& nI 128 = 0 ↔ ty / 128 % 2 = 0) := by decide +kernel
set_option maxRecDepth 100000 in
set_option maxHeartbeats 2000000 in
theorem l_sgEnd {l : Launch} {G : ks_G} {d kd : Nat} {y N L b k p m u e inp ty : Nat} {g fA fS fZ hA hS hZ : Nat → Nat} {code : List Nat} (hg : kO g) (hL : L ≤ N) (hN : N < 2 ^ 18) (hyn : y ∉ ([40, 39] : List Nat)) (hi : inp < k) (hty : ty < 256) (hkd : kd < 32) {M : List Nat} (hf : M.length + 8 ≤ 8000) : ∀ S : ks_S, tvX S y g L b k p m u e fA fS fZ hA hS hZ → S.2.2 y = some (kB N g) → bfS S 37 38 1600 (some code) → bfS S 39 40 8000 (some M) → ks_X l G mX10_writeSigned (d + 2) 338 [(0, .ref 20), (1, .ref 39), (2, .int (nI inp)), (3, .int (nI ty)), (4, .ref 37), (5, .int (nI kd))] [] S (fun z S' => z = some (.int (ks_bo true)) ∧ ks_up S S' [40, 39] ∧ bfS S' 39 40 8000 (some (M ++ (bytL g (e - 4) 4 ++ numL (lN ty) 4)))) := by
  intro S hX hy hC hB
  have bd := tx_bd hX.2.2.2.2.2.2.2.1
  refine ks_aload_n dX10_writeSigned_338 rfl rfl ?_
  refine ks_aload_n dX10_writeSigned_339 rfl rfl ?_
  refine ks_getf (T := TX10) (kf := 0) kx_554 rfl in_X10 cl_X10 (by decide) hX.1 rfl dX10_writeSigned_340 rfl ?_
  refine ks_aload_n dX10_writeSigned_343 rfl rfl ?_
  refine ks_getf (T := TX10) (kf := 10) kx_572 rfl in_X10 cl_X10 (by decide) hX.1 rfl dX10_writeSigned_344 rfl ?_
  refine ks_iconst (x := nI 4) dX10_writeSigned_347 (by decide) rfl ?_
  refine ks_subN (by omega) dX10_writeSigned_348 rfl ?_
  refine ks_iconst (x := nI 4) dX10_writeSigned_349 (by decide) rfl ?_
  refine ks_callV (n := 3) (M' := mX1_addBytes) (bf_bytes (d := d) (i := e - 4) (n := 4) hB (by decide) hy hg (by omega) (by omega)) (hB.choose_spec.choose_spec.2.2.2.1) cl_X1 rfl kx_1352 kx_872 kx_873 kx_2 kx_874 (by decide +kernel) rfl (by decide) (Nat.le_of_ble_eq_true rfl) rfl dX10_writeSigned_350 rfl (fun r1 T1 q1 => ?_)
  obtain ⟨rfl, u1, b1⟩ := q1
  rw [bfA_fit (by simp only [List.length_append, bytL_len, numL_len] at hf ⊢; omega)] at b1
  have x1 := hX.up u1 (by decide)
  have y1 := u1.at hy hyn
  have c1 := hC.up u1 (by decide) (by decide)
  refine ks_aload_n dX10_writeSigned_353 rfl rfl ?_
  refine ks_iload_n dX10_writeSigned_354 rfl rfl ?_
  refine ks_i2lN (by omega) dX10_writeSigned_355 rfl ?_
  refine ks_iconst (x := nI 4) dX10_writeSigned_356 (by decide) rfl ?_
  refine ks_callV (n := 2) (M' := mX1_addNumber) (bf_number (d := d + 1) (v := lN ty) (sz := 4) b1 (by decide) (by decide)) (b1.choose_spec.choose_spec.2.2.2.1) cl_X1 rfl kx_1354 kx_829 kx_830 kx_2 kx_831 (by decide +kernel) rfl (by decide) (Nat.le_of_ble_eq_true rfl) rfl dX10_writeSigned_357 rfl (fun r2 T2 q2 => ?_)
  obtain ⟨rfl, u2, b2⟩ := q2
  rw [bfA_fit (by simp only [List.length_append, bytL_len, numL_len] at hf ⊢; omega)] at b2
  have x2 := x1.up u2 (by decide)
  have y2 := u2.at y1 hyn
  have c2 := c1.up u2 (by decide) (by decide)
  refine ks_iconst (x := nI 1) dX10_writeSigned_360 (by decide) rfl ?_
  refine ks_zret rfl rfl dX10_writeSigned_361 ?_
  rw [List.append_assoc] at b2
  exact ⟨rfl, (u1.trans u2), b2⟩
set_option maxRecDepth 100000 in
set_option maxHeartbeats 2000000 in
theorem l_sgOut {l : Launch} {G : ks_G} {d kd : Nat} {y N L b k p m u e inp ty : Nat} {g fA fS fZ hA hS hZ : Nat → Nat} {code : List Nat} (hg : kO g) (hL : L ≤ N) (hN : N < 2 ^ 18) (hyn : y ∉ ([40, 39] : List Nat)) (hi : inp < k) (hty : ty < 256) (hkd : kd < 32) {sh : Nat} (hsm : sh ≤ m) (hs3 : kd = 3 → sh = inp + 1) : ∀ c i, i + c = sh → ∀ (S : ks_S) (M : List Nat), M.length + (catL (sgOut g L u inp kd) ((List.range sh).map (0 + ·))).length + 8 ≤ 8000 → tvX S y g L b k p m u e fA fS fZ hA hS hZ → S.2.2 y = some (kB N g) → bfS S 37 38 1600 (some code) → bfS S 39 40 8000 (some (M ++ catL (sgOut g L u inp kd) ((List.range i).map (0 + ·)))) → ks_X l G mX10_writeSigned (d + 2) 258 [(0, .ref 20), (1, .ref 39), (2, .int (nI inp)), (3, .int (nI ty)), (4, .ref 37), (5, .int (nI kd)), (7, .int (nI sh)), (8, .int (nI i))] [] S (fun z S' => z = some (.int (ks_bo true)) ∧ ks_up S S' [40, 39] ∧ bfS S' 39 40 8000 (some (M ++ catL (sgOut g L u inp kd) ((List.range sh).map (0 + ·)) ++ (bytL g (e - 4) 4 ++ numL (lN ty) 4)))) := by
  intro c
  induction c with
  | zero =>
    intro i hic S M hf hX hy hC hB
    have bd := tx_bd hX.2.2.2.2.2.2.2.1
    refine ks_iload dX10_writeSigned_258 rfl rfl ?_
    refine ks_iload dX10_writeSigned_260 rfl rfl ?_
    refine ks_icmp_geN (tgt := 338) (by omega) (by omega) dX10_writeSigned_262 (by decide) rfl (fun hc => ?_) (fun hc => ?_)
    · obtain rfl : i = sh := by omega
      refine ks_sub [(0, _), (1, _), (2, _), (3, _), (4, _), (5, _)] rfl ?_
      refine (l_sgEnd hg hL hN hyn hi hty hkd (by simp only [List.length_append] at hf ⊢; omega) S hX hy hC hB).mono ?_
      rintro z S' ⟨e1, e2, e3⟩
      exact ⟨e1, e2, e3⟩
    · exact absurd (show sh ≤ i by omega) hc
  | succ c ih =>
    intro i hic S M hf hX hy hC hB
    have bd := tx_bd hX.2.2.2.2.2.2.2.1
    refine ks_iload dX10_writeSigned_258 rfl rfl ?_
    refine ks_iload dX10_writeSigned_260 rfl rfl ?_
    refine ks_icmp_geN (tgt := 338) (by omega) (by omega) dX10_writeSigned_262 (by decide) rfl (fun hc => ?_) (fun hc => ?_)
    · exact absurd hc (by omega)
    · have hm := catL_mono (sgOut g L u inp kd) (0 + ·) (show i + 1 ≤ sh by omega)
      rw [catL_s] at hm
      obtain ⟨e1, e2, e3⟩ := hX.2.2.2.2.2.2.2.2.2 i (by omega)
      obtain ⟨-, -, -, t1, t2⟩ := tx_out hX.2.2.2.2.2.2.2.1 i (by omega)
      refine ks_iload dX10_writeSigned_265 rfl rfl ?_
      refine ks_iconst (x := nI 3) dX10_writeSigned_267 (by decide) rfl ?_
      refine ks_icmp_neN (tgt := 294) (by omega) (by decide) dX10_writeSigned_268 (by decide) rfl (fun hc268 => ?_) (fun hc268 => ?_)
      · refine ks_aload_n dX10_writeSigned_294 rfl rfl ?_
        refine ks_aload_n dX10_writeSigned_295 rfl rfl ?_
        refine ks_getf (T := TX10) (kf := 0) kx_554 rfl in_X10 cl_X10 (by decide) hX.1 rfl dX10_writeSigned_296 rfl ?_
        refine ks_aload_n dX10_writeSigned_299 rfl rfl ?_
        refine ks_getf (T := TX10) (kf := 6) kx_567 rfl in_X10 cl_X10 (by decide) hX.1 rfl dX10_writeSigned_300 rfl ?_
        refine ks_iload dX10_writeSigned_303 rfl rfl ?_
        refine ks_ialdN (i := i) hX.2.2.2.2.1 rfl (by omega) (by decide) dX10_writeSigned_305 rfl ?_
        refine ks_aload_n dX10_writeSigned_306 rfl rfl ?_
        refine ks_getf (T := TX10) (kf := 7) kx_569 rfl in_X10 cl_X10 (by decide) hX.1 rfl dX10_writeSigned_307 rfl ?_
        refine ks_iload dX10_writeSigned_310 rfl rfl ?_
        refine ks_ialdN (i := i) hX.2.2.2.2.2.1 rfl (by omega) (by decide) dX10_writeSigned_312 rfl ?_
        refine ks_aload_n dX10_writeSigned_313 rfl rfl ?_
        refine ks_getf (T := TX10) (kf := 8) kx_570 rfl in_X10 cl_X10 (by decide) hX.1 rfl dX10_writeSigned_314 rfl ?_
        refine ks_iload dX10_writeSigned_317 rfl rfl ?_
        refine ks_ialdN (i := i) hX.2.2.2.2.2.2.1 rfl (by omega) (by decide) dX10_writeSigned_319 rfl ?_
        refine ks_addN dX10_writeSigned_320 rfl ?_
        refine ks_aload_n dX10_writeSigned_321 rfl rfl ?_
        refine ks_getf (T := TX10) (kf := 6) kx_567 rfl in_X10 cl_X10 (by decide) hX.1 rfl dX10_writeSigned_322 rfl ?_
        refine ks_iload dX10_writeSigned_325 rfl rfl ?_
        refine ks_ialdN (i := i) hX.2.2.2.2.1 rfl (by omega) (by decide) dX10_writeSigned_327 rfl ?_
        refine ks_subN (by omega) dX10_writeSigned_328 rfl ?_
        have ho : sgOut g L u inp kd (0 + i) = bytL g (hA i) (hS i + hZ i - hA i) := by unfold sgOut; rw [if_neg (by omega), Nat.zero_add, e1, e2, e3]
        rw [ho, List.length_append, bytL_len] at hm
        refine ks_callV (n := 3) (M' := mX1_addBytes) (bf_bytes (d := d) (i := hA i) (n := hS i + hZ i - hA i) hB (by decide) hy hg (by omega) (by omega)) (hB.choose_spec.choose_spec.2.2.2.1) cl_X1 rfl kx_1352 kx_872 kx_873 kx_2 kx_874 (by decide +kernel) rfl (by decide) (Nat.le_of_ble_eq_true rfl) rfl dX10_writeSigned_329 rfl (fun r1 T1 q1 => ?_)
        obtain ⟨rfl, u1, b1⟩ := q1
        rw [bfA_fit (by simp only [List.length_append, bytL_len, numL_len] at hf ⊢; omega)] at b1
        have x1 := hX.up u1 (by decide)
        have y1 := u1.at hy hyn
        have c1 := hC.up u1 (by decide) (by decide)
        refine ks_incN (c := 1) (e := i + 1) dX10_writeSigned_332 rfl (by decide) rfl (by decide) rfl ?_
        refine ks_sub [(8, _), (7, _), (0, _), (1, _), (2, _), (3, _), (4, _), (5, _)] rfl ?_
        refine ks_goto (tgt := 258) dX10_writeSigned_335 (by decide) ?_
        refine (ks_sub [(0, _), (1, _), (2, _), (3, _), (4, _), (5, _), (7, _), (8, _)] rfl (ih (i + 1) (by omega) _ M hf x1 y1 c1 (?_ : bfS _ _ _ _ _))).mono ?_
        · rw [catL_s, ho]
          simp only [List.append_assoc] at b1 ⊢
          exact b1
        · rintro z S' ⟨e1, e2, e3⟩
          exact ⟨e1, u1.trans e2, e3⟩
      · refine ks_iload dX10_writeSigned_271 rfl rfl ?_
        refine ks_iload_n dX10_writeSigned_273 rfl rfl ?_
        refine ks_icmp_geN (tgt := 294) (by omega) (by omega) dX10_writeSigned_274 (by decide) rfl (fun hc274 => ?_) (fun hc274 => ?_)
        · refine ks_aload_n dX10_writeSigned_294 rfl rfl ?_
          refine ks_aload_n dX10_writeSigned_295 rfl rfl ?_
          refine ks_getf (T := TX10) (kf := 0) kx_554 rfl in_X10 cl_X10 (by decide) hX.1 rfl dX10_writeSigned_296 rfl ?_
          refine ks_aload_n dX10_writeSigned_299 rfl rfl ?_
          refine ks_getf (T := TX10) (kf := 6) kx_567 rfl in_X10 cl_X10 (by decide) hX.1 rfl dX10_writeSigned_300 rfl ?_
          refine ks_iload dX10_writeSigned_303 rfl rfl ?_
          refine ks_ialdN (i := i) hX.2.2.2.2.1 rfl (by omega) (by decide) dX10_writeSigned_305 rfl ?_
          refine ks_aload_n dX10_writeSigned_306 rfl rfl ?_
          refine ks_getf (T := TX10) (kf := 7) kx_569 rfl in_X10 cl_X10 (by decide) hX.1 rfl dX10_writeSigned_307 rfl ?_
          refine ks_iload dX10_writeSigned_310 rfl rfl ?_
          refine ks_ialdN (i := i) hX.2.2.2.2.2.1 rfl (by omega) (by decide) dX10_writeSigned_312 rfl ?_
          refine ks_aload_n dX10_writeSigned_313 rfl rfl ?_
          refine ks_getf (T := TX10) (kf := 8) kx_570 rfl in_X10 cl_X10 (by decide) hX.1 rfl dX10_writeSigned_314 rfl ?_
          refine ks_iload dX10_writeSigned_317 rfl rfl ?_
          refine ks_ialdN (i := i) hX.2.2.2.2.2.2.1 rfl (by omega) (by decide) dX10_writeSigned_319 rfl ?_
          refine ks_addN dX10_writeSigned_320 rfl ?_
          refine ks_aload_n dX10_writeSigned_321 rfl rfl ?_
          refine ks_getf (T := TX10) (kf := 6) kx_567 rfl in_X10 cl_X10 (by decide) hX.1 rfl dX10_writeSigned_322 rfl ?_
          refine ks_iload dX10_writeSigned_325 rfl rfl ?_
          refine ks_ialdN (i := i) hX.2.2.2.2.1 rfl (by omega) (by decide) dX10_writeSigned_327 rfl ?_
          refine ks_subN (by omega) dX10_writeSigned_328 rfl ?_
          have ho : sgOut g L u inp kd (0 + i) = bytL g (hA i) (hS i + hZ i - hA i) := by unfold sgOut; rw [if_neg (by omega), Nat.zero_add, e1, e2, e3]
          rw [ho, List.length_append, bytL_len] at hm
          refine ks_callV (n := 3) (M' := mX1_addBytes) (bf_bytes (d := d) (i := hA i) (n := hS i + hZ i - hA i) hB (by decide) hy hg (by omega) (by omega)) (hB.choose_spec.choose_spec.2.2.2.1) cl_X1 rfl kx_1352 kx_872 kx_873 kx_2 kx_874 (by decide +kernel) rfl (by decide) (Nat.le_of_ble_eq_true rfl) rfl dX10_writeSigned_329 rfl (fun r1 T1 q1 => ?_)
          obtain ⟨rfl, u1, b1⟩ := q1
          rw [bfA_fit (by simp only [List.length_append, bytL_len, numL_len] at hf ⊢; omega)] at b1
          have x1 := hX.up u1 (by decide)
          have y1 := u1.at hy hyn
          have c1 := hC.up u1 (by decide) (by decide)
          refine ks_incN (c := 1) (e := i + 1) dX10_writeSigned_332 rfl (by decide) rfl (by decide) rfl ?_
          refine ks_sub [(8, _), (7, _), (0, _), (1, _), (2, _), (3, _), (4, _), (5, _)] rfl ?_
          refine ks_goto (tgt := 258) dX10_writeSigned_335 (by decide) ?_
          refine (ks_sub [(0, _), (1, _), (2, _), (3, _), (4, _), (5, _), (7, _), (8, _)] rfl (ih (i + 1) (by omega) _ M hf x1 y1 c1 (?_ : bfS _ _ _ _ _))).mono ?_
          · rw [catL_s, ho]
            simp only [List.append_assoc] at b1 ⊢
            exact b1
          · rintro z S' ⟨e1, e2, e3⟩
            exact ⟨e1, u1.trans e2, e3⟩
        · refine ks_aload_n dX10_writeSigned_277 rfl rfl ?_
          refine ks_ldc2 dX10_writeSigned_278 kx_1355 rfl ?_
          refine ks_bipush (x := nI 8) dX10_writeSigned_281 (by decide) rfl ?_
          have ho : sgOut g L u inp kd (0 + i) = numL (-1) 8 ++ cntL 0 := by unfold sgOut; rw [if_pos (by omega)]
          rw [ho, List.length_append, List.length_append, numL_len] at hm
          refine ks_callV (n := 2) (M' := mX1_addNumber) (bf_number (d := d + 1) (v := -1) (sz := 8) hB (by decide) (by decide)) (hB.choose_spec.choose_spec.2.2.2.1) cl_X1 rfl kx_1354 kx_829 kx_830 kx_2 kx_831 (by decide +kernel) rfl (by decide) (Nat.le_of_ble_eq_true rfl) rfl dX10_writeSigned_283 rfl (fun r1 T1 q1 => ?_)
          obtain ⟨rfl, u1, b1⟩ := q1
          rw [bfA_fit (by simp only [List.length_append, bytL_len, numL_len] at hf ⊢; omega)] at b1
          have x1 := hX.up u1 (by decide)
          have y1 := u1.at hy hyn
          have c1 := hC.up u1 (by decide) (by decide)
          refine ks_aload_n dX10_writeSigned_286 rfl rfl ?_
          refine ks_iconst (x := nI 0) dX10_writeSigned_287 (by decide) rfl ?_
          refine ks_callV (n := 1) (M' := mX1_addCount) (bf_count (d := d + 1) (n := 0) b1 (by decide) (by decide)) (b1.choose_spec.choose_spec.2.2.2.1) cl_X1 rfl kx_1353 kx_868 kx_869 kx_2 kx_870 (by decide +kernel) rfl (by decide) (Nat.le_of_ble_eq_true rfl) rfl dX10_writeSigned_288 rfl (fun r2 T2 q2 => ?_)
          obtain ⟨rfl, u2, b2⟩ := q2
          rw [bfA_fit (by simp only [List.length_append, bytL_len, numL_len] at hf ⊢; omega)] at b2
          have x2 := x1.up u2 (by decide)
          have y2 := u2.at y1 hyn
          have c2 := c1.up u2 (by decide) (by decide)
          refine ks_goto (tgt := 332) dX10_writeSigned_291 (by decide) ?_
          refine ks_incN (c := 1) (e := i + 1) dX10_writeSigned_332 rfl (by decide) rfl (by decide) rfl ?_
          refine ks_sub [(8, _), (7, _), (0, _), (1, _), (2, _), (3, _), (4, _), (5, _)] rfl ?_
          refine ks_goto (tgt := 258) dX10_writeSigned_335 (by decide) ?_
          refine (ks_sub [(0, _), (1, _), (2, _), (3, _), (4, _), (5, _), (7, _), (8, _)] rfl (ih (i + 1) (by omega) _ M hf x2 y2 c2 (?_ : bfS _ _ _ _ _))).mono ?_
          · rw [catL_s, ho]
            simp only [List.append_assoc] at b2 ⊢
            exact b2
          · rintro z S' ⟨e1, e2, e3⟩
            exact ⟨e1, (u1.trans u2).trans e2, e3⟩
set_option maxRecDepth 100000 in
set_option maxHeartbeats 2000000 in
theorem l_sgMid {l : Launch} {G : ks_G} {d kd : Nat} {y N L b k p m u e inp ty : Nat} {g fA fS fZ hA hS hZ : Nat → Nat} {code : List Nat} (hg : kO g) (hL : L ≤ N) (hN : N < 2 ^ 18) (hyn : y ∉ ([40, 39] : List Nat)) (hi : inp < k) (hty : ty < 256) (hkd : kd < 32) {M : List Nat} (h3 : kd = 3 → inp < m) (hf : M.length + (cntL (sgSh m inp kd)).length + (catL (sgOut g L u inp kd) ((List.range (sgSh m inp kd)).map (0 + ·))).length + 8 ≤ 8000) : ∀ S : ks_S, tvX S y g L b k p m u e fA fS fZ hA hS hZ → S.2.2 y = some (kB N g) → bfS S 37 38 1600 (some code) → bfS S 39 40 8000 (some M) → ks_X l G mX10_writeSigned (d + 2) 221 [(0, .ref 20), (1, .ref 39), (2, .int (nI inp)), (3, .int (nI ty)), (4, .ref 37), (5, .int (nI kd))] [] S (fun z S' => z = some (.int (ks_bo true)) ∧ ks_up S S' [40, 39] ∧ bfS S' 39 40 8000 (some (M ++ (cntL (sgSh m inp kd) ++ catL (sgOut g L u inp kd) ((List.range (sgSh m inp kd)).map (0 + ·)) ++ (bytL g (e - 4) 4 ++ numL (lN ty) 4))))) := by
  intro S hX hy hC hB
  have bd := tx_bd hX.2.2.2.2.2.2.2.1
  refine ks_iload dX10_writeSigned_221 rfl rfl ?_
  refine ks_iconst (x := nI 2) dX10_writeSigned_223 (by decide) rfl ?_
  refine ks_icmp_neN (tgt := 231) (by omega) (by decide) dX10_writeSigned_224 (by decide) rfl (fun hc224 => ?_) (fun hc224 => ?_)
  · refine ks_iload dX10_writeSigned_231 rfl rfl ?_
    refine ks_iconst (x := nI 3) dX10_writeSigned_233 (by decide) rfl ?_
    refine ks_icmp_neN (tgt := 243) (by omega) (by decide) dX10_writeSigned_234 (by decide) rfl (fun hc234 => ?_) (fun hc234 => ?_)
    · refine ks_aload_n dX10_writeSigned_243 rfl rfl ?_
      refine ks_getf (T := TX10) (kf := 2) kx_559 rfl in_X10 cl_X10 (by decide) hX.1 rfl dX10_writeSigned_244 rfl ?_
      refine ks_istore dX10_writeSigned_247 (by decide) rfl ?_
      refine ks_sub [(7, _), (0, _), (1, _), (2, _), (3, _), (4, _), (5, _)] rfl ?_
      refine ks_aload_n dX10_writeSigned_249 rfl rfl ?_
      refine ks_iload dX10_writeSigned_250 rfl rfl ?_
      have hs : sgSh m inp kd = m := by unfold sgSh; first | rw [if_pos (by omega)] | rw [if_neg (by omega), if_pos (by omega)] | rw [if_neg (by omega), if_neg (by omega)]
      rw [hs] at hf ⊢
      refine ks_callV (n := 1) (M' := mX1_addCount) (bf_count (d := d + 1) (n := m) hB (by decide) (by omega)) (hB.choose_spec.choose_spec.2.2.2.1) cl_X1 rfl kx_1353 kx_868 kx_869 kx_2 kx_870 (by decide +kernel) rfl (by decide) (Nat.le_of_ble_eq_true rfl) rfl dX10_writeSigned_252 rfl (fun r1 T1 q1 => ?_)
      obtain ⟨rfl, u1, b1⟩ := q1
      rw [bfA_fit (by omega)] at b1
      have x1 := hX.up u1 (by decide)
      have y1 := u1.at hy hyn
      have c1 := hC.up u1 (by decide) (by decide)
      refine ks_iconst (x := nI 0) dX10_writeSigned_255 (by decide) rfl ?_
      refine ks_istore dX10_writeSigned_256 (by decide) rfl ?_
      refine ks_sub [(8, _), (0, _), (1, _), (2, _), (3, _), (4, _), (5, _), (7, _)] rfl ?_
      refine (ks_sub [(0, _), (1, _), (2, _), (3, _), (4, _), (5, _), (7, _), (8, _)] rfl (l_sgOut hg hL hN hyn hi hty hkd (sh := m) (by omega) (by omega) (m) 0 (by omega) _ (M ++ cntL (m)) (by simp only [List.length_append]; omega) x1 y1 c1 (?_ : bfS _ _ _ _ _))).mono ?_
      · show bfS _ _ _ _ (some (_ ++ []))
        rw [List.append_nil]; exact b1
      · rintro z S' ⟨e1, e2, e3⟩
        simp only [List.append_assoc] at e3 ⊢
        exact ⟨e1, u1.trans e2, e3⟩
    · refine ks_iload_n dX10_writeSigned_237 rfl rfl ?_
      refine ks_iconst (x := nI 1) dX10_writeSigned_238 (by decide) rfl ?_
      refine ks_addN dX10_writeSigned_239 rfl ?_
      refine ks_goto (tgt := 247) dX10_writeSigned_240 (by decide) ?_
      refine ks_istore dX10_writeSigned_247 (by decide) rfl ?_
      refine ks_sub [(7, _), (0, _), (1, _), (2, _), (3, _), (4, _), (5, _)] rfl ?_
      refine ks_aload_n dX10_writeSigned_249 rfl rfl ?_
      refine ks_iload dX10_writeSigned_250 rfl rfl ?_
      have hs : sgSh m inp kd = inp + 1 := by unfold sgSh; first | rw [if_pos (by omega)] | rw [if_neg (by omega), if_pos (by omega)] | rw [if_neg (by omega), if_neg (by omega)]
      rw [hs] at hf ⊢
      refine ks_callV (n := 1) (M' := mX1_addCount) (bf_count (d := d + 1) (n := inp + 1) hB (by decide) (by omega)) (hB.choose_spec.choose_spec.2.2.2.1) cl_X1 rfl kx_1353 kx_868 kx_869 kx_2 kx_870 (by decide +kernel) rfl (by decide) (Nat.le_of_ble_eq_true rfl) rfl dX10_writeSigned_252 rfl (fun r1 T1 q1 => ?_)
      obtain ⟨rfl, u1, b1⟩ := q1
      rw [bfA_fit (by omega)] at b1
      have x1 := hX.up u1 (by decide)
      have y1 := u1.at hy hyn
      have c1 := hC.up u1 (by decide) (by decide)
      refine ks_iconst (x := nI 0) dX10_writeSigned_255 (by decide) rfl ?_
      refine ks_istore dX10_writeSigned_256 (by decide) rfl ?_
      refine ks_sub [(8, _), (0, _), (1, _), (2, _), (3, _), (4, _), (5, _), (7, _)] rfl ?_
      refine (ks_sub [(0, _), (1, _), (2, _), (3, _), (4, _), (5, _), (7, _), (8, _)] rfl (l_sgOut hg hL hN hyn hi hty hkd (sh := inp + 1) (by omega) (by omega) (inp + 1) 0 (by omega) _ (M ++ cntL (inp + 1)) (by simp only [List.length_append]; omega) x1 y1 c1 (?_ : bfS _ _ _ _ _))).mono ?_
      · show bfS _ _ _ _ (some (_ ++ []))
        rw [List.append_nil]; exact b1
      · rintro z S' ⟨e1, e2, e3⟩
        simp only [List.append_assoc] at e3 ⊢
        exact ⟨e1, u1.trans e2, e3⟩
  · refine ks_iconst (x := nI 0) dX10_writeSigned_227 (by decide) rfl ?_
    refine ks_goto (tgt := 247) dX10_writeSigned_228 (by decide) ?_
    refine ks_istore dX10_writeSigned_247 (by decide) rfl ?_
    refine ks_sub [(7, _), (0, _), (1, _), (2, _), (3, _), (4, _), (5, _)] rfl ?_
    refine ks_aload_n dX10_writeSigned_249 rfl rfl ?_
    refine ks_iload dX10_writeSigned_250 rfl rfl ?_
    have hs : sgSh m inp kd = 0 := by unfold sgSh; first | rw [if_pos (by omega)] | rw [if_neg (by omega), if_pos (by omega)] | rw [if_neg (by omega), if_neg (by omega)]
    rw [hs] at hf ⊢
    refine ks_callV (n := 1) (M' := mX1_addCount) (bf_count (d := d + 1) (n := 0) hB (by decide) (by omega)) (hB.choose_spec.choose_spec.2.2.2.1) cl_X1 rfl kx_1353 kx_868 kx_869 kx_2 kx_870 (by decide +kernel) rfl (by decide) (Nat.le_of_ble_eq_true rfl) rfl dX10_writeSigned_252 rfl (fun r1 T1 q1 => ?_)
    obtain ⟨rfl, u1, b1⟩ := q1
    rw [bfA_fit (by omega)] at b1
    have x1 := hX.up u1 (by decide)
    have y1 := u1.at hy hyn
    have c1 := hC.up u1 (by decide) (by decide)
    refine ks_iconst (x := nI 0) dX10_writeSigned_255 (by decide) rfl ?_
    refine ks_istore dX10_writeSigned_256 (by decide) rfl ?_
    refine ks_sub [(8, _), (0, _), (1, _), (2, _), (3, _), (4, _), (5, _), (7, _)] rfl ?_
    refine (ks_sub [(0, _), (1, _), (2, _), (3, _), (4, _), (5, _), (7, _), (8, _)] rfl (l_sgOut hg hL hN hyn hi hty hkd (sh := 0) (by omega) (by omega) (0) 0 (by omega) _ (M ++ cntL (0)) (by simp only [List.length_append]; omega) x1 y1 c1 (?_ : bfS _ _ _ _ _))).mono ?_
    · show bfS _ _ _ _ (some (_ ++ []))
      rw [List.append_nil]; exact b1
    · rintro z S' ⟨e1, e2, e3⟩
      simp only [List.append_assoc] at e3 ⊢
      exact ⟨e1, u1.trans e2, e3⟩
set_option maxRecDepth 100000 in
set_option maxHeartbeats 2000000 in
theorem l_sgIn {l : Launch} {G : ks_G} {d kd : Nat} {y N L b k p m u e inp ty : Nat} {g fA fS fZ hA hS hZ : Nat → Nat} {code : List Nat} (hg : kO g) (hL : L ≤ N) (hN : N < 2 ^ 18) (hyn : y ∉ ([40, 39] : List Nat)) (hi : inp < k) (hty : ty < 256) (hkd : kd < 32) {al : Bool} (h3 : kd = 3 → inp < m) : ∀ c j, j + c = sgN k al → ∀ (S : ks_S) (M : List Nat), M.length + (catL (sgIn g L p inp kd code) ((List.range (sgN k al)).map (sgI0 inp al + ·))).length + (cntL (sgSh m inp kd)).length + (catL (sgOut g L u inp kd) ((List.range (sgSh m inp kd)).map (0 + ·))).length + 8 ≤ 8000 → tvX S y g L b k p m u e fA fS fZ hA hS hZ → S.2.2 y = some (kB N g) → bfS S 37 38 1600 (some code) → bfS S 39 40 8000 (some (M ++ catL (sgIn g L p inp kd code) ((List.range j).map (sgI0 inp al + ·)))) → ks_X l G mX10_writeSigned (d + 2) 83 [(0, .ref 20), (1, .ref 39), (2, .int (nI inp)), (3, .int (nI ty)), (4, .ref 37), (5, .int (nI kd)), (6, .int (ks_bo al)), (7, .int (nI (sgI0 inp al + j)))] [] S (fun z S' => z = some (.int (ks_bo true)) ∧ ks_up S S' [40, 39] ∧ bfS S' 39 40 8000 (some (M ++ catL (sgIn g L p inp kd code) ((List.range (sgN k al)).map (sgI0 inp al + ·)) ++ (cntL (sgSh m inp kd) ++ catL (sgOut g L u inp kd) ((List.range (sgSh m inp kd)).map (0 + ·)) ++ (bytL g (e - 4) 4 ++ numL (lN ty) 4))))) := by
  intro c
  induction c with
  | zero =>
    intro j hjc S M hf hX hy hC hB
    have bd := tx_bd hX.2.2.2.2.2.2.2.1
    have hal : (al = true → sgN k al = 1 ∧ sgI0 inp al = inp) ∧ (al = false → sgN k al = k ∧ sgI0 inp al = 0) := by cases al <;> exact ⟨by intro h; cases h <;> exact ⟨rfl, rfl⟩, by intro h; cases h <;> exact ⟨rfl, rfl⟩⟩
    have hI9 : sgI0 inp al + j ≤ 41 := by cases al with | true => have := hal.1 rfl; omega | false => have := hal.2 rfl; omega
    refine ks_iload dX10_writeSigned_83 rfl rfl ?_
    refine ks_iload dX10_writeSigned_85 rfl rfl ?_
    refine ks_if_eqZ (tgt := 96) dX10_writeSigned_87 (by decide) rfl (fun hc87 => ?_) (fun hc87 => ?_)
    · refine ks_aload_n dX10_writeSigned_96 rfl rfl ?_
      refine ks_getf (T := TX10) (kf := 1) kx_557 rfl in_X10 cl_X10 (by decide) hX.1 rfl dX10_writeSigned_97 rfl ?_
      refine ks_icmp_geN (tgt := 221) (by omega) (by omega) dX10_writeSigned_100 (by decide) rfl (fun hc100 => ?_) (fun hc100 => ?_)
      · refine ks_sub [(0, _), (1, _), (2, _), (3, _), (4, _), (5, _)] rfl ?_
        obtain rfl : j = sgN k al := by omega
        refine (l_sgMid hg hL hN hyn hi hty hkd h3 (by simp only [List.length_append] at hf ⊢; omega) S hX hy hC hB).mono ?_
        rintro z S' ⟨e1, e2, e3⟩
        exact ⟨e1, e2, e3⟩
      · first | (have := hal.1 hc87; omega) | (have := hal.2 hc87; omega)
    · refine ks_iload_n dX10_writeSigned_90 rfl rfl ?_
      refine ks_iconst (x := nI 1) dX10_writeSigned_91 (by decide) rfl ?_
      refine ks_addN dX10_writeSigned_92 rfl ?_
      refine ks_goto (tgt := 100) dX10_writeSigned_93 (by decide) ?_
      refine ks_icmp_geN (tgt := 221) (by omega) (by omega) dX10_writeSigned_100 (by decide) rfl (fun hc100 => ?_) (fun hc100 => ?_)
      · refine ks_sub [(0, _), (1, _), (2, _), (3, _), (4, _), (5, _)] rfl ?_
        obtain rfl : j = sgN k al := by omega
        refine (l_sgMid hg hL hN hyn hi hty hkd h3 (by simp only [List.length_append] at hf ⊢; omega) S hX hy hC hB).mono ?_
        rintro z S' ⟨e1, e2, e3⟩
        exact ⟨e1, e2, e3⟩
      · first | (have := hal.1 hc87; omega) | (have := hal.2 hc87; omega)
  | succ c ih =>
    intro j hjc S M hf hX hy hC hB
    have bd := tx_bd hX.2.2.2.2.2.2.2.1
    have hal : (al = true → sgN k al = 1 ∧ sgI0 inp al = inp) ∧ (al = false → sgN k al = k ∧ sgI0 inp al = 0) := by cases al <;> exact ⟨by intro h; cases h <;> exact ⟨rfl, rfl⟩, by intro h; cases h <;> exact ⟨rfl, rfl⟩⟩
    have hI9 : sgI0 inp al + j ≤ 41 := by cases al with | true => have := hal.1 rfl; omega | false => have := hal.2 rfl; omega
    refine ks_iload dX10_writeSigned_83 rfl rfl ?_
    refine ks_iload dX10_writeSigned_85 rfl rfl ?_
    refine ks_if_eqZ (tgt := 96) dX10_writeSigned_87 (by decide) rfl (fun hc87 => ?_) (fun hc87 => ?_)
    · refine ks_aload_n dX10_writeSigned_96 rfl rfl ?_
      refine ks_getf (T := TX10) (kf := 1) kx_557 rfl in_X10 cl_X10 (by decide) hX.1 rfl dX10_writeSigned_97 rfl ?_
      refine ks_icmp_geN (tgt := 221) (by omega) (by omega) dX10_writeSigned_100 (by decide) rfl (fun hc100 => ?_) (fun hc100 => ?_)
      · first | (have := hal.1 hc87; omega) | (have := hal.2 hc87; omega)
      · refine ks_aload_n dX10_writeSigned_103 rfl rfl ?_
        refine ks_aload_n dX10_writeSigned_104 rfl rfl ?_
        refine ks_getf (T := TX10) (kf := 0) kx_554 rfl in_X10 cl_X10 (by decide) hX.1 rfl dX10_writeSigned_105 rfl ?_
        refine ks_aload_n dX10_writeSigned_108 rfl rfl ?_
        refine ks_getf (T := TX10) (kf := 3) kx_561 rfl in_X10 cl_X10 (by decide) hX.1 rfl dX10_writeSigned_109 rfl ?_
        refine ks_iload dX10_writeSigned_112 rfl rfl ?_
        refine ks_ialdN (i := sgI0 inp al + j) hX.2.1 rfl (by omega) (by decide) dX10_writeSigned_114 rfl ?_
        refine ks_bipush (x := nI 36) dX10_writeSigned_115 (by decide) rfl ?_
        have hik : sgI0 inp al + j < k := by first | (have := hal.1 hc87; omega) | (have := hal.2 hc87; omega)
        obtain ⟨e1, e2, e3⟩ := hX.2.2.2.2.2.2.2.2.1 _ hik
        obtain ⟨-, -, -, t1, t2, -⟩ := tx_in hX.2.2.2.2.2.2.2.1 _ hik
        have hm := catL_mono (sgIn g L p inp kd code) (sgI0 inp al + ·) (show j + 1 ≤ sgN k al by omega)
        rw [catL_s] at hm
        have hcl := hC.choose_spec.choose_spec.2.1
        have hcl2 : code.length ≤ 1600 := by obtain ⟨len, gq, c1, c2, c3, c4, c5, c6⟩ := hC; omega
        simp only [sgIn, List.length_append, bytL_len] at hm
        refine ks_callV (n := 3) (M' := mX1_addBytes) (bf_bytes (d := d) (i := fA (sgI0 inp al + j)) (n := 36) hB (by decide) hy hg (by omega) (by omega)) (hB.choose_spec.choose_spec.2.2.2.1) cl_X1 rfl kx_1352 kx_872 kx_873 kx_2 kx_874 (by decide +kernel) rfl (by decide) (Nat.le_of_ble_eq_true rfl) rfl dX10_writeSigned_117 rfl (fun r1 T1 q1 => ?_)
        obtain ⟨rfl, u1, b1⟩ := q1
        rw [bfA_fit (by simp only [List.length_append, bytL_len, numL_len] at hf ⊢; omega)] at b1
        have x1 := hX.up u1 (by decide)
        have y1 := u1.at hy hyn
        have c1 := hC.up u1 (by decide) (by decide)
        refine ks_aload_n dX10_writeSigned_120 rfl rfl ?_
        refine ks_iload dX10_writeSigned_121 rfl rfl ?_
        refine ks_iload_n dX10_writeSigned_123 rfl rfl ?_
        refine ks_icmp_neN (tgt := 135) (by omega) (by omega) dX10_writeSigned_124 (by decide) rfl (fun hc124 => ?_) (fun hc124 => ?_)
        · refine ks_iconst (x := nI 0) dX10_writeSigned_135 (by decide) rfl ?_
          simp only [if_neg hc124] at hm
          refine ks_callV (n := 1) (M' := mX1_addCount) (bf_count (d := d + 1) (n := 0) b1 (by decide) (by omega)) (b1.choose_spec.choose_spec.2.2.2.1) cl_X1 rfl kx_1353 kx_868 kx_869 kx_2 kx_870 (by decide +kernel) rfl (by decide) (Nat.le_of_ble_eq_true rfl) rfl dX10_writeSigned_136 rfl (fun r2 T2 q2 => ?_)
          obtain ⟨rfl, u2, b2⟩ := q2
          rw [bfA_fit (by simp only [List.length_append, bytL_len, numL_len] at hf ⊢; omega)] at b2
          have x2 := x1.up u2 (by decide)
          have y2 := u2.at y1 hyn
          have c2 := c1.up u2 (by decide) (by decide)
          refine ks_aload_n dX10_writeSigned_139 rfl rfl ?_
          refine ks_aload dX10_writeSigned_140 rfl rfl ?_
          refine ks_getf (T := TX1) (kf := 0) kx_57 rfl in_X1 cl_X1 (by decide) c2.ob rfl dX10_writeSigned_142 rfl ?_
          refine ks_iconst (x := nI 0) dX10_writeSigned_145 (by decide) rfl ?_
          refine ks_iload dX10_writeSigned_146 rfl rfl ?_
          refine ks_iload_n dX10_writeSigned_148 rfl rfl ?_
          refine ks_icmp_neN (tgt := 160) (by omega) (by omega) dX10_writeSigned_149 (by decide) rfl (fun hc149 => ?_) (fun hc149 => ?_)
          · refine ks_iconst (x := nI 0) dX10_writeSigned_160 (by decide) rfl ?_
            obtain ⟨len9, g9, k1, k2, k3, k4, k5, k6⟩ := id c2
            have k7 := bfO_byt (c := code) ⟨rfl, fun j hj => k6 j (by rw [← k5]; exact hj)⟩
            refine ks_callV (n := 3) (M' := mX1_addBytes) (bf_bytes (d := d) (i := 0) (n := 0) b2 (by decide) k3 k1 (by omega) (by decide)) (b2.choose_spec.choose_spec.2.2.2.1) cl_X1 rfl kx_1352 kx_872 kx_873 kx_2 kx_874 (by decide +kernel) rfl (by decide) (Nat.le_of_ble_eq_true rfl) rfl dX10_writeSigned_161 rfl (fun r3 T3 q3 => ?_)
            obtain ⟨rfl, u3, b3⟩ := q3
            rw [bfA_fit (by simp only [List.length_append, bytL_len, numL_len] at hf ⊢; omega)] at b3
            have x3 := x2.up u3 (by decide)
            have y3 := u3.at y2 hyn
            have c3 := c2.up u3 (by decide) (by decide)
            refine ks_iload dX10_writeSigned_164 rfl rfl ?_
            refine ks_iload_n dX10_writeSigned_166 rfl rfl ?_
            refine ks_icmp_eqN (tgt := 191) (by omega) (by omega) dX10_writeSigned_167 (by decide) rfl (fun hc167 => ?_) (fun hc167 => ?_)
            · omega
            · refine ks_iload dX10_writeSigned_170 rfl rfl ?_
              refine ks_iconst (x := nI 2) dX10_writeSigned_172 (by decide) rfl ?_
              refine ks_icmp_eqN (tgt := 182) (by omega) (by decide) dX10_writeSigned_173 (by decide) rfl (fun hc173 => ?_) (fun hc173 => ?_)
              · refine ks_aload_n dX10_writeSigned_182 rfl rfl ?_
                refine ks_lconst (x := lN 0) dX10_writeSigned_183 (by decide) rfl ?_
                refine ks_iconst (x := nI 4) dX10_writeSigned_184 (by decide) rfl ?_
                refine ks_callV (n := 2) (M' := mX1_addNumber) (bf_number (d := d + 1) (v := 0) (sz := 4) b3 (by decide) (by decide)) (b3.choose_spec.choose_spec.2.2.2.1) cl_X1 rfl kx_1354 kx_829 kx_830 kx_2 kx_831 (by decide +kernel) rfl (by decide) (Nat.le_of_ble_eq_true rfl) rfl dX10_writeSigned_185 rfl (fun r4 T4 q4 => ?_)
                obtain ⟨rfl, u4, b4⟩ := q4
                rw [bfA_fit (by simp only [List.length_append, bytL_len, numL_len] at hf ⊢; omega)] at b4
                have x4 := x3.up u4 (by decide)
                have y4 := u4.at y3 hyn
                have c4 := c3.up u4 (by decide) (by decide)
                refine ks_goto (tgt := 215) dX10_writeSigned_188 (by decide) ?_
                refine ks_incN (c := 1) (e := sgI0 inp al + j + 1) dX10_writeSigned_215 rfl (by decide) rfl (by decide) rfl ?_
                refine ks_sub [(7, _), (6, _), (0, _), (1, _), (2, _), (3, _), (4, _), (5, _)] rfl ?_
                refine ks_goto (tgt := 83) dX10_writeSigned_218 (by decide) ?_
                refine (ks_sub [(0, _), (1, _), (2, _), (3, _), (4, _), (5, _), (6, _), (7, _)] rfl (ih (j + 1) (by omega) _ M hf x4 y4 c4 (?_ : bfS _ _ _ _ _))).mono ?_
                · rw [catL_s]
                  simp only [sgIn]
                  simp only [if_neg hc124, if_pos (show ¬ sgI0 inp al + j = inp ∧ (kd = 2 ∨ kd = 3) by omega)]
                  rw [← e1]
                  rw [show bytL g9 0 0 = [] from rfl] at b4
                  simp only [List.append_assoc] at b4 ⊢
                  exact b4
                · rintro z S' ⟨e1, e2, e3⟩
                  exact ⟨e1, (((u1.trans u2).trans u3).trans u4).trans e2, e3⟩
              · refine ks_iload dX10_writeSigned_176 rfl rfl ?_
                refine ks_iconst (x := nI 3) dX10_writeSigned_178 (by decide) rfl ?_
                refine ks_icmp_neN (tgt := 191) (by omega) (by decide) dX10_writeSigned_179 (by decide) rfl (fun hc179 => ?_) (fun hc179 => ?_)
                · refine ks_aload_n dX10_writeSigned_191 rfl rfl ?_
                  refine ks_aload_n dX10_writeSigned_192 rfl rfl ?_
                  refine ks_getf (T := TX10) (kf := 0) kx_554 rfl in_X10 cl_X10 (by decide) x3.1 rfl dX10_writeSigned_193 rfl ?_
                  refine ks_aload_n dX10_writeSigned_196 rfl rfl ?_
                  refine ks_getf (T := TX10) (kf := 4) kx_563 rfl in_X10 cl_X10 (by decide) x3.1 rfl dX10_writeSigned_197 rfl ?_
                  refine ks_iload dX10_writeSigned_200 rfl rfl ?_
                  refine ks_ialdN (i := sgI0 inp al + j) x3.2.2.1 rfl (by omega) (by decide) dX10_writeSigned_202 rfl ?_
                  refine ks_aload_n dX10_writeSigned_203 rfl rfl ?_
                  refine ks_getf (T := TX10) (kf := 5) kx_565 rfl in_X10 cl_X10 (by decide) x3.1 rfl dX10_writeSigned_204 rfl ?_
                  refine ks_iload dX10_writeSigned_207 rfl rfl ?_
                  refine ks_ialdN (i := sgI0 inp al + j) x3.2.2.2.1 rfl (by omega) (by decide) dX10_writeSigned_209 rfl ?_
                  refine ks_addN dX10_writeSigned_210 rfl ?_
                  refine ks_iconst (x := nI 4) dX10_writeSigned_211 (by decide) rfl ?_
                  refine ks_callV (n := 3) (M' := mX1_addBytes) (bf_bytes (d := d) (i := fS (sgI0 inp al + j) + fZ (sgI0 inp al + j)) (n := 4) b3 (by decide) y3 hg (by omega) (by omega)) (b3.choose_spec.choose_spec.2.2.2.1) cl_X1 rfl kx_1352 kx_872 kx_873 kx_2 kx_874 (by decide +kernel) rfl (by decide) (Nat.le_of_ble_eq_true rfl) rfl dX10_writeSigned_212 rfl (fun r4 T4 q4 => ?_)
                  obtain ⟨rfl, u4, b4⟩ := q4
                  rw [bfA_fit (by simp only [List.length_append, bytL_len, numL_len] at hf ⊢; omega)] at b4
                  have x4 := x3.up u4 (by decide)
                  have y4 := u4.at y3 hyn
                  have c4 := c3.up u4 (by decide) (by decide)
                  refine ks_incN (c := 1) (e := sgI0 inp al + j + 1) dX10_writeSigned_215 rfl (by decide) rfl (by decide) rfl ?_
                  refine ks_sub [(7, _), (6, _), (0, _), (1, _), (2, _), (3, _), (4, _), (5, _)] rfl ?_
                  refine ks_goto (tgt := 83) dX10_writeSigned_218 (by decide) ?_
                  refine (ks_sub [(0, _), (1, _), (2, _), (3, _), (4, _), (5, _), (6, _), (7, _)] rfl (ih (j + 1) (by omega) _ M hf x4 y4 c4 (?_ : bfS _ _ _ _ _))).mono ?_
                  · rw [catL_s]
                    simp only [sgIn]
                    simp only [if_neg hc124, if_neg (show ¬ (¬ sgI0 inp al + j = inp ∧ (kd = 2 ∨ kd = 3)) by omega)]
                    rw [← e1, ← e2, ← e3]
                    rw [show bytL g9 0 0 = [] from rfl] at b4
                    simp only [List.append_assoc] at b4 ⊢
                    exact b4
                  · rintro z S' ⟨e1, e2, e3⟩
                    exact ⟨e1, (((u1.trans u2).trans u3).trans u4).trans e2, e3⟩
                · refine ks_aload_n dX10_writeSigned_182 rfl rfl ?_
                  refine ks_lconst (x := lN 0) dX10_writeSigned_183 (by decide) rfl ?_
                  refine ks_iconst (x := nI 4) dX10_writeSigned_184 (by decide) rfl ?_
                  refine ks_callV (n := 2) (M' := mX1_addNumber) (bf_number (d := d + 1) (v := 0) (sz := 4) b3 (by decide) (by decide)) (b3.choose_spec.choose_spec.2.2.2.1) cl_X1 rfl kx_1354 kx_829 kx_830 kx_2 kx_831 (by decide +kernel) rfl (by decide) (Nat.le_of_ble_eq_true rfl) rfl dX10_writeSigned_185 rfl (fun r4 T4 q4 => ?_)
                  obtain ⟨rfl, u4, b4⟩ := q4
                  rw [bfA_fit (by simp only [List.length_append, bytL_len, numL_len] at hf ⊢; omega)] at b4
                  have x4 := x3.up u4 (by decide)
                  have y4 := u4.at y3 hyn
                  have c4 := c3.up u4 (by decide) (by decide)
                  refine ks_goto (tgt := 215) dX10_writeSigned_188 (by decide) ?_
                  refine ks_incN (c := 1) (e := sgI0 inp al + j + 1) dX10_writeSigned_215 rfl (by decide) rfl (by decide) rfl ?_
                  refine ks_sub [(7, _), (6, _), (0, _), (1, _), (2, _), (3, _), (4, _), (5, _)] rfl ?_
                  refine ks_goto (tgt := 83) dX10_writeSigned_218 (by decide) ?_
                  refine (ks_sub [(0, _), (1, _), (2, _), (3, _), (4, _), (5, _), (6, _), (7, _)] rfl (ih (j + 1) (by omega) _ M hf x4 y4 c4 (?_ : bfS _ _ _ _ _))).mono ?_
                  · rw [catL_s]
                    simp only [sgIn]
                    simp only [if_neg hc124, if_pos (show ¬ sgI0 inp al + j = inp ∧ (kd = 2 ∨ kd = 3) by omega)]
                    rw [← e1]
                    rw [show bytL g9 0 0 = [] from rfl] at b4
                    simp only [List.append_assoc] at b4 ⊢
                    exact b4
                  · rintro z S' ⟨e1, e2, e3⟩
                    exact ⟨e1, (((u1.trans u2).trans u3).trans u4).trans e2, e3⟩
          · omega
        · refine ks_aload dX10_writeSigned_127 rfl rfl ?_
          refine ks_getf (T := TX1) (kf := 1) kx_64 rfl in_X1 cl_X1 (by decide) c1.ob rfl dX10_writeSigned_129 rfl ?_
          refine ks_goto (tgt := 136) dX10_writeSigned_132 (by decide) ?_
          simp only [if_pos hc124] at hm
          refine ks_callV (n := 1) (M' := mX1_addCount) (bf_count (d := d + 1) (n := code.length) b1 (by decide) (by omega)) (b1.choose_spec.choose_spec.2.2.2.1) cl_X1 rfl kx_1353 kx_868 kx_869 kx_2 kx_870 (by decide +kernel) rfl (by decide) (Nat.le_of_ble_eq_true rfl) rfl dX10_writeSigned_136 rfl (fun r2 T2 q2 => ?_)
          obtain ⟨rfl, u2, b2⟩ := q2
          rw [bfA_fit (by simp only [List.length_append, bytL_len, numL_len] at hf ⊢; omega)] at b2
          have x2 := x1.up u2 (by decide)
          have y2 := u2.at y1 hyn
          have c2 := c1.up u2 (by decide) (by decide)
          refine ks_aload_n dX10_writeSigned_139 rfl rfl ?_
          refine ks_aload dX10_writeSigned_140 rfl rfl ?_
          refine ks_getf (T := TX1) (kf := 0) kx_57 rfl in_X1 cl_X1 (by decide) c2.ob rfl dX10_writeSigned_142 rfl ?_
          refine ks_iconst (x := nI 0) dX10_writeSigned_145 (by decide) rfl ?_
          refine ks_iload dX10_writeSigned_146 rfl rfl ?_
          refine ks_iload_n dX10_writeSigned_148 rfl rfl ?_
          refine ks_icmp_neN (tgt := 160) (by omega) (by omega) dX10_writeSigned_149 (by decide) rfl (fun hc149 => ?_) (fun hc149 => ?_)
          · omega
          · refine ks_aload dX10_writeSigned_152 rfl rfl ?_
            refine ks_getf (T := TX1) (kf := 1) kx_64 rfl in_X1 cl_X1 (by decide) c2.ob rfl dX10_writeSigned_154 rfl ?_
            refine ks_goto (tgt := 161) dX10_writeSigned_157 (by decide) ?_
            obtain ⟨len9, g9, k1, k2, k3, k4, k5, k6⟩ := id c2
            have k7 := bfO_byt (c := code) ⟨rfl, fun j hj => k6 j (by rw [← k5]; exact hj)⟩
            refine ks_callV (n := 3) (M' := mX1_addBytes) (bf_bytes (d := d) (i := 0) (n := code.length) b2 (by decide) k3 k1 (by omega) (by decide)) (b2.choose_spec.choose_spec.2.2.2.1) cl_X1 rfl kx_1352 kx_872 kx_873 kx_2 kx_874 (by decide +kernel) rfl (by decide) (Nat.le_of_ble_eq_true rfl) rfl dX10_writeSigned_161 rfl (fun r3 T3 q3 => ?_)
            obtain ⟨rfl, u3, b3⟩ := q3
            rw [bfA_fit (by simp only [List.length_append, bytL_len, numL_len] at hf ⊢; omega)] at b3
            have x3 := x2.up u3 (by decide)
            have y3 := u3.at y2 hyn
            have c3 := c2.up u3 (by decide) (by decide)
            refine ks_iload dX10_writeSigned_164 rfl rfl ?_
            refine ks_iload_n dX10_writeSigned_166 rfl rfl ?_
            refine ks_icmp_eqN (tgt := 191) (by omega) (by omega) dX10_writeSigned_167 (by decide) rfl (fun hc167 => ?_) (fun hc167 => ?_)
            · refine ks_aload_n dX10_writeSigned_191 rfl rfl ?_
              refine ks_aload_n dX10_writeSigned_192 rfl rfl ?_
              refine ks_getf (T := TX10) (kf := 0) kx_554 rfl in_X10 cl_X10 (by decide) x3.1 rfl dX10_writeSigned_193 rfl ?_
              refine ks_aload_n dX10_writeSigned_196 rfl rfl ?_
              refine ks_getf (T := TX10) (kf := 4) kx_563 rfl in_X10 cl_X10 (by decide) x3.1 rfl dX10_writeSigned_197 rfl ?_
              refine ks_iload dX10_writeSigned_200 rfl rfl ?_
              refine ks_ialdN (i := sgI0 inp al + j) x3.2.2.1 rfl (by omega) (by decide) dX10_writeSigned_202 rfl ?_
              refine ks_aload_n dX10_writeSigned_203 rfl rfl ?_
              refine ks_getf (T := TX10) (kf := 5) kx_565 rfl in_X10 cl_X10 (by decide) x3.1 rfl dX10_writeSigned_204 rfl ?_
              refine ks_iload dX10_writeSigned_207 rfl rfl ?_
              refine ks_ialdN (i := sgI0 inp al + j) x3.2.2.2.1 rfl (by omega) (by decide) dX10_writeSigned_209 rfl ?_
              refine ks_addN dX10_writeSigned_210 rfl ?_
              refine ks_iconst (x := nI 4) dX10_writeSigned_211 (by decide) rfl ?_
              refine ks_callV (n := 3) (M' := mX1_addBytes) (bf_bytes (d := d) (i := fS (sgI0 inp al + j) + fZ (sgI0 inp al + j)) (n := 4) b3 (by decide) y3 hg (by omega) (by omega)) (b3.choose_spec.choose_spec.2.2.2.1) cl_X1 rfl kx_1352 kx_872 kx_873 kx_2 kx_874 (by decide +kernel) rfl (by decide) (Nat.le_of_ble_eq_true rfl) rfl dX10_writeSigned_212 rfl (fun r4 T4 q4 => ?_)
              obtain ⟨rfl, u4, b4⟩ := q4
              rw [bfA_fit (by simp only [List.length_append, bytL_len, numL_len] at hf ⊢; omega)] at b4
              have x4 := x3.up u4 (by decide)
              have y4 := u4.at y3 hyn
              have c4 := c3.up u4 (by decide) (by decide)
              refine ks_incN (c := 1) (e := sgI0 inp al + j + 1) dX10_writeSigned_215 rfl (by decide) rfl (by decide) rfl ?_
              refine ks_sub [(7, _), (6, _), (0, _), (1, _), (2, _), (3, _), (4, _), (5, _)] rfl ?_
              refine ks_goto (tgt := 83) dX10_writeSigned_218 (by decide) ?_
              refine (ks_sub [(0, _), (1, _), (2, _), (3, _), (4, _), (5, _), (6, _), (7, _)] rfl (ih (j + 1) (by omega) _ M hf x4 y4 c4 (?_ : bfS _ _ _ _ _))).mono ?_
              · rw [catL_s]
                simp only [sgIn]
                simp only [if_pos hc124, if_neg (show ¬ (¬ sgI0 inp al + j = inp ∧ (kd = 2 ∨ kd = 3)) by omega)]
                rw [← e1, ← e2, ← e3]
                rw [k7] at b4
                simp only [List.append_assoc] at b4 ⊢
                exact b4
              · rintro z S' ⟨e1, e2, e3⟩
                exact ⟨e1, (((u1.trans u2).trans u3).trans u4).trans e2, e3⟩
            · omega
    · refine ks_iload_n dX10_writeSigned_90 rfl rfl ?_
      refine ks_iconst (x := nI 1) dX10_writeSigned_91 (by decide) rfl ?_
      refine ks_addN dX10_writeSigned_92 rfl ?_
      refine ks_goto (tgt := 100) dX10_writeSigned_93 (by decide) ?_
      refine ks_icmp_geN (tgt := 221) (by omega) (by omega) dX10_writeSigned_100 (by decide) rfl (fun hc100 => ?_) (fun hc100 => ?_)
      · first | (have := hal.1 hc87; omega) | (have := hal.2 hc87; omega)
      · refine ks_aload_n dX10_writeSigned_103 rfl rfl ?_
        refine ks_aload_n dX10_writeSigned_104 rfl rfl ?_
        refine ks_getf (T := TX10) (kf := 0) kx_554 rfl in_X10 cl_X10 (by decide) hX.1 rfl dX10_writeSigned_105 rfl ?_
        refine ks_aload_n dX10_writeSigned_108 rfl rfl ?_
        refine ks_getf (T := TX10) (kf := 3) kx_561 rfl in_X10 cl_X10 (by decide) hX.1 rfl dX10_writeSigned_109 rfl ?_
        refine ks_iload dX10_writeSigned_112 rfl rfl ?_
        refine ks_ialdN (i := sgI0 inp al + j) hX.2.1 rfl (by omega) (by decide) dX10_writeSigned_114 rfl ?_
        refine ks_bipush (x := nI 36) dX10_writeSigned_115 (by decide) rfl ?_
        have hik : sgI0 inp al + j < k := by first | (have := hal.1 hc87; omega) | (have := hal.2 hc87; omega)
        obtain ⟨e1, e2, e3⟩ := hX.2.2.2.2.2.2.2.2.1 _ hik
        obtain ⟨-, -, -, t1, t2, -⟩ := tx_in hX.2.2.2.2.2.2.2.1 _ hik
        have hm := catL_mono (sgIn g L p inp kd code) (sgI0 inp al + ·) (show j + 1 ≤ sgN k al by omega)
        rw [catL_s] at hm
        have hcl := hC.choose_spec.choose_spec.2.1
        have hcl2 : code.length ≤ 1600 := by obtain ⟨len, gq, c1, c2, c3, c4, c5, c6⟩ := hC; omega
        simp only [sgIn, List.length_append, bytL_len] at hm
        refine ks_callV (n := 3) (M' := mX1_addBytes) (bf_bytes (d := d) (i := fA (sgI0 inp al + j)) (n := 36) hB (by decide) hy hg (by omega) (by omega)) (hB.choose_spec.choose_spec.2.2.2.1) cl_X1 rfl kx_1352 kx_872 kx_873 kx_2 kx_874 (by decide +kernel) rfl (by decide) (Nat.le_of_ble_eq_true rfl) rfl dX10_writeSigned_117 rfl (fun r1 T1 q1 => ?_)
        obtain ⟨rfl, u1, b1⟩ := q1
        rw [bfA_fit (by simp only [List.length_append, bytL_len, numL_len] at hf ⊢; omega)] at b1
        have x1 := hX.up u1 (by decide)
        have y1 := u1.at hy hyn
        have c1 := hC.up u1 (by decide) (by decide)
        refine ks_aload_n dX10_writeSigned_120 rfl rfl ?_
        refine ks_iload dX10_writeSigned_121 rfl rfl ?_
        refine ks_iload_n dX10_writeSigned_123 rfl rfl ?_
        refine ks_icmp_neN (tgt := 135) (by omega) (by omega) dX10_writeSigned_124 (by decide) rfl (fun hc124 => ?_) (fun hc124 => ?_)
        · refine ks_iconst (x := nI 0) dX10_writeSigned_135 (by decide) rfl ?_
          simp only [if_neg hc124] at hm
          refine ks_callV (n := 1) (M' := mX1_addCount) (bf_count (d := d + 1) (n := 0) b1 (by decide) (by omega)) (b1.choose_spec.choose_spec.2.2.2.1) cl_X1 rfl kx_1353 kx_868 kx_869 kx_2 kx_870 (by decide +kernel) rfl (by decide) (Nat.le_of_ble_eq_true rfl) rfl dX10_writeSigned_136 rfl (fun r2 T2 q2 => ?_)
          obtain ⟨rfl, u2, b2⟩ := q2
          rw [bfA_fit (by simp only [List.length_append, bytL_len, numL_len] at hf ⊢; omega)] at b2
          have x2 := x1.up u2 (by decide)
          have y2 := u2.at y1 hyn
          have c2 := c1.up u2 (by decide) (by decide)
          refine ks_aload_n dX10_writeSigned_139 rfl rfl ?_
          refine ks_aload dX10_writeSigned_140 rfl rfl ?_
          refine ks_getf (T := TX1) (kf := 0) kx_57 rfl in_X1 cl_X1 (by decide) c2.ob rfl dX10_writeSigned_142 rfl ?_
          refine ks_iconst (x := nI 0) dX10_writeSigned_145 (by decide) rfl ?_
          refine ks_iload dX10_writeSigned_146 rfl rfl ?_
          refine ks_iload_n dX10_writeSigned_148 rfl rfl ?_
          refine ks_icmp_neN (tgt := 160) (by omega) (by omega) dX10_writeSigned_149 (by decide) rfl (fun hc149 => ?_) (fun hc149 => ?_)
          · refine ks_iconst (x := nI 0) dX10_writeSigned_160 (by decide) rfl ?_
            obtain ⟨len9, g9, k1, k2, k3, k4, k5, k6⟩ := id c2
            have k7 := bfO_byt (c := code) ⟨rfl, fun j hj => k6 j (by rw [← k5]; exact hj)⟩
            refine ks_callV (n := 3) (M' := mX1_addBytes) (bf_bytes (d := d) (i := 0) (n := 0) b2 (by decide) k3 k1 (by omega) (by decide)) (b2.choose_spec.choose_spec.2.2.2.1) cl_X1 rfl kx_1352 kx_872 kx_873 kx_2 kx_874 (by decide +kernel) rfl (by decide) (Nat.le_of_ble_eq_true rfl) rfl dX10_writeSigned_161 rfl (fun r3 T3 q3 => ?_)
            obtain ⟨rfl, u3, b3⟩ := q3
            rw [bfA_fit (by simp only [List.length_append, bytL_len, numL_len] at hf ⊢; omega)] at b3
            have x3 := x2.up u3 (by decide)
            have y3 := u3.at y2 hyn
            have c3 := c2.up u3 (by decide) (by decide)
            refine ks_iload dX10_writeSigned_164 rfl rfl ?_
            refine ks_iload_n dX10_writeSigned_166 rfl rfl ?_
            refine ks_icmp_eqN (tgt := 191) (by omega) (by omega) dX10_writeSigned_167 (by decide) rfl (fun hc167 => ?_) (fun hc167 => ?_)
            · omega
            · refine ks_iload dX10_writeSigned_170 rfl rfl ?_
              refine ks_iconst (x := nI 2) dX10_writeSigned_172 (by decide) rfl ?_
              refine ks_icmp_eqN (tgt := 182) (by omega) (by decide) dX10_writeSigned_173 (by decide) rfl (fun hc173 => ?_) (fun hc173 => ?_)
              · refine ks_aload_n dX10_writeSigned_182 rfl rfl ?_
                refine ks_lconst (x := lN 0) dX10_writeSigned_183 (by decide) rfl ?_
                refine ks_iconst (x := nI 4) dX10_writeSigned_184 (by decide) rfl ?_
                refine ks_callV (n := 2) (M' := mX1_addNumber) (bf_number (d := d + 1) (v := 0) (sz := 4) b3 (by decide) (by decide)) (b3.choose_spec.choose_spec.2.2.2.1) cl_X1 rfl kx_1354 kx_829 kx_830 kx_2 kx_831 (by decide +kernel) rfl (by decide) (Nat.le_of_ble_eq_true rfl) rfl dX10_writeSigned_185 rfl (fun r4 T4 q4 => ?_)
                obtain ⟨rfl, u4, b4⟩ := q4
                rw [bfA_fit (by simp only [List.length_append, bytL_len, numL_len] at hf ⊢; omega)] at b4
                have x4 := x3.up u4 (by decide)
                have y4 := u4.at y3 hyn
                have c4 := c3.up u4 (by decide) (by decide)
                refine ks_goto (tgt := 215) dX10_writeSigned_188 (by decide) ?_
                refine ks_incN (c := 1) (e := sgI0 inp al + j + 1) dX10_writeSigned_215 rfl (by decide) rfl (by decide) rfl ?_
                refine ks_sub [(7, _), (6, _), (0, _), (1, _), (2, _), (3, _), (4, _), (5, _)] rfl ?_
                refine ks_goto (tgt := 83) dX10_writeSigned_218 (by decide) ?_
                refine (ks_sub [(0, _), (1, _), (2, _), (3, _), (4, _), (5, _), (6, _), (7, _)] rfl (ih (j + 1) (by omega) _ M hf x4 y4 c4 (?_ : bfS _ _ _ _ _))).mono ?_
                · rw [catL_s]
                  simp only [sgIn]
                  simp only [if_neg hc124, if_pos (show ¬ sgI0 inp al + j = inp ∧ (kd = 2 ∨ kd = 3) by omega)]
                  rw [← e1]
                  rw [show bytL g9 0 0 = [] from rfl] at b4
                  simp only [List.append_assoc] at b4 ⊢
                  exact b4
                · rintro z S' ⟨e1, e2, e3⟩
                  exact ⟨e1, (((u1.trans u2).trans u3).trans u4).trans e2, e3⟩
              · refine ks_iload dX10_writeSigned_176 rfl rfl ?_
                refine ks_iconst (x := nI 3) dX10_writeSigned_178 (by decide) rfl ?_
                refine ks_icmp_neN (tgt := 191) (by omega) (by decide) dX10_writeSigned_179 (by decide) rfl (fun hc179 => ?_) (fun hc179 => ?_)
                · refine ks_aload_n dX10_writeSigned_191 rfl rfl ?_
                  refine ks_aload_n dX10_writeSigned_192 rfl rfl ?_
                  refine ks_getf (T := TX10) (kf := 0) kx_554 rfl in_X10 cl_X10 (by decide) x3.1 rfl dX10_writeSigned_193 rfl ?_
                  refine ks_aload_n dX10_writeSigned_196 rfl rfl ?_
                  refine ks_getf (T := TX10) (kf := 4) kx_563 rfl in_X10 cl_X10 (by decide) x3.1 rfl dX10_writeSigned_197 rfl ?_
                  refine ks_iload dX10_writeSigned_200 rfl rfl ?_
                  refine ks_ialdN (i := sgI0 inp al + j) x3.2.2.1 rfl (by omega) (by decide) dX10_writeSigned_202 rfl ?_
                  refine ks_aload_n dX10_writeSigned_203 rfl rfl ?_
                  refine ks_getf (T := TX10) (kf := 5) kx_565 rfl in_X10 cl_X10 (by decide) x3.1 rfl dX10_writeSigned_204 rfl ?_
                  refine ks_iload dX10_writeSigned_207 rfl rfl ?_
                  refine ks_ialdN (i := sgI0 inp al + j) x3.2.2.2.1 rfl (by omega) (by decide) dX10_writeSigned_209 rfl ?_
                  refine ks_addN dX10_writeSigned_210 rfl ?_
                  refine ks_iconst (x := nI 4) dX10_writeSigned_211 (by decide) rfl ?_
                  refine ks_callV (n := 3) (M' := mX1_addBytes) (bf_bytes (d := d) (i := fS (sgI0 inp al + j) + fZ (sgI0 inp al + j)) (n := 4) b3 (by decide) y3 hg (by omega) (by omega)) (b3.choose_spec.choose_spec.2.2.2.1) cl_X1 rfl kx_1352 kx_872 kx_873 kx_2 kx_874 (by decide +kernel) rfl (by decide) (Nat.le_of_ble_eq_true rfl) rfl dX10_writeSigned_212 rfl (fun r4 T4 q4 => ?_)
                  obtain ⟨rfl, u4, b4⟩ := q4
                  rw [bfA_fit (by simp only [List.length_append, bytL_len, numL_len] at hf ⊢; omega)] at b4
                  have x4 := x3.up u4 (by decide)
                  have y4 := u4.at y3 hyn
                  have c4 := c3.up u4 (by decide) (by decide)
                  refine ks_incN (c := 1) (e := sgI0 inp al + j + 1) dX10_writeSigned_215 rfl (by decide) rfl (by decide) rfl ?_
                  refine ks_sub [(7, _), (6, _), (0, _), (1, _), (2, _), (3, _), (4, _), (5, _)] rfl ?_
                  refine ks_goto (tgt := 83) dX10_writeSigned_218 (by decide) ?_
                  refine (ks_sub [(0, _), (1, _), (2, _), (3, _), (4, _), (5, _), (6, _), (7, _)] rfl (ih (j + 1) (by omega) _ M hf x4 y4 c4 (?_ : bfS _ _ _ _ _))).mono ?_
                  · rw [catL_s]
                    simp only [sgIn]
                    simp only [if_neg hc124, if_neg (show ¬ (¬ sgI0 inp al + j = inp ∧ (kd = 2 ∨ kd = 3)) by omega)]
                    rw [← e1, ← e2, ← e3]
                    rw [show bytL g9 0 0 = [] from rfl] at b4
                    simp only [List.append_assoc] at b4 ⊢
                    exact b4
                  · rintro z S' ⟨e1, e2, e3⟩
                    exact ⟨e1, (((u1.trans u2).trans u3).trans u4).trans e2, e3⟩
                · refine ks_aload_n dX10_writeSigned_182 rfl rfl ?_
                  refine ks_lconst (x := lN 0) dX10_writeSigned_183 (by decide) rfl ?_
                  refine ks_iconst (x := nI 4) dX10_writeSigned_184 (by decide) rfl ?_
                  refine ks_callV (n := 2) (M' := mX1_addNumber) (bf_number (d := d + 1) (v := 0) (sz := 4) b3 (by decide) (by decide)) (b3.choose_spec.choose_spec.2.2.2.1) cl_X1 rfl kx_1354 kx_829 kx_830 kx_2 kx_831 (by decide +kernel) rfl (by decide) (Nat.le_of_ble_eq_true rfl) rfl dX10_writeSigned_185 rfl (fun r4 T4 q4 => ?_)
                  obtain ⟨rfl, u4, b4⟩ := q4
                  rw [bfA_fit (by simp only [List.length_append, bytL_len, numL_len] at hf ⊢; omega)] at b4
                  have x4 := x3.up u4 (by decide)
                  have y4 := u4.at y3 hyn
                  have c4 := c3.up u4 (by decide) (by decide)
                  refine ks_goto (tgt := 215) dX10_writeSigned_188 (by decide) ?_
                  refine ks_incN (c := 1) (e := sgI0 inp al + j + 1) dX10_writeSigned_215 rfl (by decide) rfl (by decide) rfl ?_
                  refine ks_sub [(7, _), (6, _), (0, _), (1, _), (2, _), (3, _), (4, _), (5, _)] rfl ?_
                  refine ks_goto (tgt := 83) dX10_writeSigned_218 (by decide) ?_
                  refine (ks_sub [(0, _), (1, _), (2, _), (3, _), (4, _), (5, _), (6, _), (7, _)] rfl (ih (j + 1) (by omega) _ M hf x4 y4 c4 (?_ : bfS _ _ _ _ _))).mono ?_
                  · rw [catL_s]
                    simp only [sgIn]
                    simp only [if_neg hc124, if_pos (show ¬ sgI0 inp al + j = inp ∧ (kd = 2 ∨ kd = 3) by omega)]
                    rw [← e1]
                    rw [show bytL g9 0 0 = [] from rfl] at b4
                    simp only [List.append_assoc] at b4 ⊢
                    exact b4
                  · rintro z S' ⟨e1, e2, e3⟩
                    exact ⟨e1, (((u1.trans u2).trans u3).trans u4).trans e2, e3⟩
          · omega
        · refine ks_aload dX10_writeSigned_127 rfl rfl ?_
          refine ks_getf (T := TX1) (kf := 1) kx_64 rfl in_X1 cl_X1 (by decide) c1.ob rfl dX10_writeSigned_129 rfl ?_
          refine ks_goto (tgt := 136) dX10_writeSigned_132 (by decide) ?_
          simp only [if_pos hc124] at hm
          refine ks_callV (n := 1) (M' := mX1_addCount) (bf_count (d := d + 1) (n := code.length) b1 (by decide) (by omega)) (b1.choose_spec.choose_spec.2.2.2.1) cl_X1 rfl kx_1353 kx_868 kx_869 kx_2 kx_870 (by decide +kernel) rfl (by decide) (Nat.le_of_ble_eq_true rfl) rfl dX10_writeSigned_136 rfl (fun r2 T2 q2 => ?_)
          obtain ⟨rfl, u2, b2⟩ := q2
          rw [bfA_fit (by simp only [List.length_append, bytL_len, numL_len] at hf ⊢; omega)] at b2
          have x2 := x1.up u2 (by decide)
          have y2 := u2.at y1 hyn
          have c2 := c1.up u2 (by decide) (by decide)
          refine ks_aload_n dX10_writeSigned_139 rfl rfl ?_
          refine ks_aload dX10_writeSigned_140 rfl rfl ?_
          refine ks_getf (T := TX1) (kf := 0) kx_57 rfl in_X1 cl_X1 (by decide) c2.ob rfl dX10_writeSigned_142 rfl ?_
          refine ks_iconst (x := nI 0) dX10_writeSigned_145 (by decide) rfl ?_
          refine ks_iload dX10_writeSigned_146 rfl rfl ?_
          refine ks_iload_n dX10_writeSigned_148 rfl rfl ?_
          refine ks_icmp_neN (tgt := 160) (by omega) (by omega) dX10_writeSigned_149 (by decide) rfl (fun hc149 => ?_) (fun hc149 => ?_)
          · omega
          · refine ks_aload dX10_writeSigned_152 rfl rfl ?_
            refine ks_getf (T := TX1) (kf := 1) kx_64 rfl in_X1 cl_X1 (by decide) c2.ob rfl dX10_writeSigned_154 rfl ?_
            refine ks_goto (tgt := 161) dX10_writeSigned_157 (by decide) ?_
            obtain ⟨len9, g9, k1, k2, k3, k4, k5, k6⟩ := id c2
            have k7 := bfO_byt (c := code) ⟨rfl, fun j hj => k6 j (by rw [← k5]; exact hj)⟩
            refine ks_callV (n := 3) (M' := mX1_addBytes) (bf_bytes (d := d) (i := 0) (n := code.length) b2 (by decide) k3 k1 (by omega) (by decide)) (b2.choose_spec.choose_spec.2.2.2.1) cl_X1 rfl kx_1352 kx_872 kx_873 kx_2 kx_874 (by decide +kernel) rfl (by decide) (Nat.le_of_ble_eq_true rfl) rfl dX10_writeSigned_161 rfl (fun r3 T3 q3 => ?_)
            obtain ⟨rfl, u3, b3⟩ := q3
            rw [bfA_fit (by simp only [List.length_append, bytL_len, numL_len] at hf ⊢; omega)] at b3
            have x3 := x2.up u3 (by decide)
            have y3 := u3.at y2 hyn
            have c3 := c2.up u3 (by decide) (by decide)
            refine ks_iload dX10_writeSigned_164 rfl rfl ?_
            refine ks_iload_n dX10_writeSigned_166 rfl rfl ?_
            refine ks_icmp_eqN (tgt := 191) (by omega) (by omega) dX10_writeSigned_167 (by decide) rfl (fun hc167 => ?_) (fun hc167 => ?_)
            · refine ks_aload_n dX10_writeSigned_191 rfl rfl ?_
              refine ks_aload_n dX10_writeSigned_192 rfl rfl ?_
              refine ks_getf (T := TX10) (kf := 0) kx_554 rfl in_X10 cl_X10 (by decide) x3.1 rfl dX10_writeSigned_193 rfl ?_
              refine ks_aload_n dX10_writeSigned_196 rfl rfl ?_
              refine ks_getf (T := TX10) (kf := 4) kx_563 rfl in_X10 cl_X10 (by decide) x3.1 rfl dX10_writeSigned_197 rfl ?_
              refine ks_iload dX10_writeSigned_200 rfl rfl ?_
              refine ks_ialdN (i := sgI0 inp al + j) x3.2.2.1 rfl (by omega) (by decide) dX10_writeSigned_202 rfl ?_
              refine ks_aload_n dX10_writeSigned_203 rfl rfl ?_
              refine ks_getf (T := TX10) (kf := 5) kx_565 rfl in_X10 cl_X10 (by decide) x3.1 rfl dX10_writeSigned_204 rfl ?_
              refine ks_iload dX10_writeSigned_207 rfl rfl ?_
              refine ks_ialdN (i := sgI0 inp al + j) x3.2.2.2.1 rfl (by omega) (by decide) dX10_writeSigned_209 rfl ?_
              refine ks_addN dX10_writeSigned_210 rfl ?_
              refine ks_iconst (x := nI 4) dX10_writeSigned_211 (by decide) rfl ?_
              refine ks_callV (n := 3) (M' := mX1_addBytes) (bf_bytes (d := d) (i := fS (sgI0 inp al + j) + fZ (sgI0 inp al + j)) (n := 4) b3 (by decide) y3 hg (by omega) (by omega)) (b3.choose_spec.choose_spec.2.2.2.1) cl_X1 rfl kx_1352 kx_872 kx_873 kx_2 kx_874 (by decide +kernel) rfl (by decide) (Nat.le_of_ble_eq_true rfl) rfl dX10_writeSigned_212 rfl (fun r4 T4 q4 => ?_)
              obtain ⟨rfl, u4, b4⟩ := q4
              rw [bfA_fit (by simp only [List.length_append, bytL_len, numL_len] at hf ⊢; omega)] at b4
              have x4 := x3.up u4 (by decide)
              have y4 := u4.at y3 hyn
              have c4 := c3.up u4 (by decide) (by decide)
              refine ks_incN (c := 1) (e := sgI0 inp al + j + 1) dX10_writeSigned_215 rfl (by decide) rfl (by decide) rfl ?_
              refine ks_sub [(7, _), (6, _), (0, _), (1, _), (2, _), (3, _), (4, _), (5, _)] rfl ?_
              refine ks_goto (tgt := 83) dX10_writeSigned_218 (by decide) ?_
              refine (ks_sub [(0, _), (1, _), (2, _), (3, _), (4, _), (5, _), (6, _), (7, _)] rfl (ih (j + 1) (by omega) _ M hf x4 y4 c4 (?_ : bfS _ _ _ _ _))).mono ?_
              · rw [catL_s]
                simp only [sgIn]
                simp only [if_pos hc124, if_neg (show ¬ (¬ sgI0 inp al + j = inp ∧ (kd = 2 ∨ kd = 3)) by omega)]
                rw [← e1, ← e2, ← e3]
                rw [k7] at b4
                simp only [List.append_assoc] at b4 ⊢
                exact b4
              · rintro z S' ⟨e1, e2, e3⟩
                exact ⟨e1, (((u1.trans u2).trans u3).trans u4).trans e2, e3⟩
            · omega
set_option maxRecDepth 100000 in
set_option maxHeartbeats 2000000 in
theorem c_writeSigned {l : Launch} {G : ks_G} {d : Nat} {S : ks_S} {y N L b k p m u e inp ty : Nat} {g : Nat → Nat} {code : List Nat} {o : Option (List Nat)} (hV : tv_ok S y g L b k p m u e) (hy : S.2.2 y = some (kB N g)) (hg : kO g) (hL : L ≤ N) (hN : N < 2 ^ 18) (hyn : y ∉ ([40, 39] : List Nat)) (hi : inp < k) (hty : ty < 256) (hC : bfS S 37 38 1600 (some code)) (hB : bfS S 39 40 8000 o) (hf : (sgL g L b k p m u e inp ty code).length ≤ 8000) : ks_P l G yX10_writeSigned mX10_writeSigned (d + 2) [.ref 20, .ref 39, .int (nI inp), .int (nI ty), .ref 37] S (fun z S' => if ty % 32 = 3 ∧ m ≤ inp then z = some (.int (ks_bo false)) ∧ S' = S else z = some (.int (ks_bo true)) ∧ ks_up S S' [40, 39] ∧ bfS S' 39 40 8000 (some (sgL g L b k p m u e inp ty code))) := by
  obtain ⟨fA, fS, fZ, hA, hS, hZ, hX⟩ := hV.x
  have bd := tx_bd hV.2.1
  refine ks_of (by decide) rfl rfl (Nat.le_of_ble_eq_true rfl) ?_
  show ks_X l G mX10_writeSigned (d + 2) 0 [(0, .ref 20), (1, .ref 39), (2, .int (nI inp)), (3, .int (nI ty)), (4, .ref 37)] [] S _
  refine ks_iload_n dX10_writeSigned_0 rfl rfl ?_
  refine ks_bipush (x := nI 31) dX10_writeSigned_1 (by decide) rfl ?_
  refine ks_andN (k := 5) (by omega) (by decide) dX10_writeSigned_3 rfl ?_
  refine ks_istore dX10_writeSigned_4 (by decide) rfl ?_
  refine ks_sub [(5, _), (0, _), (1, _), (2, _), (3, _), (4, _)] rfl ?_
  refine ks_iload dX10_writeSigned_6 rfl rfl ?_
  refine ks_iconst (x := nI 3) dX10_writeSigned_8 (by decide) rfl ?_
  refine ks_icmp_neN (tgt := 22) (by omega) (by decide) dX10_writeSigned_9 (by decide) rfl (fun hc9 => ?_) (fun hc9 => ?_)
  · refine ks_iload_n dX10_writeSigned_22 rfl rfl ?_
    refine ks_sipush (x := nI 128) dX10_writeSigned_23 (by decide) rfl ?_
    refine ks_iand dX10_writeSigned_26 rfl ?_
    refine ks_if_eq (tgt := 34) dX10_writeSigned_27 (by decide) rfl (fun hc27 => ?_) (fun hc27 => ?_)
    · rw [sg_bit ty hty] at hc27
      refine ks_iconst (x := nI 0) dX10_writeSigned_34 (by decide) rfl ?_
      refine ks_istore dX10_writeSigned_35 (by decide) rfl ?_
      refine ks_sub [(6, _), (0, _), (1, _), (2, _), (3, _), (4, _), (5, _)] rfl ?_
      refine ks_aload_n dX10_writeSigned_37 rfl rfl ?_
      refine ks_callV (n := 0) (M' := mX1_clear) (bf_clear (d := d + 1) hB) (hB.choose_spec.choose_spec.2.2.2.1) cl_X1 rfl kx_1351 kx_843 kx_844 kx_2 kx_845 (by decide +kernel) rfl (by decide) (Nat.le_of_ble_eq_true rfl) rfl dX10_writeSigned_38 rfl (fun r1 T1 q1 => ?_)
      obtain ⟨rfl, u1, b1⟩ := q1
      have x1 := hX.up u1 (by decide)
      have y1 := u1.at hy hyn
      have c1 := hC.up u1 (by decide) (by decide)
      refine ks_aload_n dX10_writeSigned_41 rfl rfl ?_
      refine ks_aload_n dX10_writeSigned_42 rfl rfl ?_
      refine ks_getf (T := TX10) (kf := 0) kx_554 rfl in_X10 cl_X10 (by decide) x1.1 rfl dX10_writeSigned_43 rfl ?_
      refine ks_aload_n dX10_writeSigned_46 rfl rfl ?_
      refine ks_getf (T := TX10) (kf := 9) kx_571 rfl in_X10 cl_X10 (by decide) x1.1 rfl dX10_writeSigned_47 rfl ?_
      refine ks_iconst (x := nI 4) dX10_writeSigned_50 (by decide) rfl ?_
      have hf2 := hf
      simp only [sgL, List.length_append, bytL_len, numL_len] at hf2
      refine ks_callV (n := 3) (M' := mX1_addBytes) (bf_bytes (d := d) (i := b) (n := 4) b1 (by decide) y1 hg (by omega) (by omega)) (b1.choose_spec.choose_spec.2.2.2.1) cl_X1 rfl kx_1352 kx_872 kx_873 kx_2 kx_874 (by decide +kernel) rfl (by decide) (Nat.le_of_ble_eq_true rfl) rfl dX10_writeSigned_51 rfl (fun r2 T2 q2 => ?_)
      obtain ⟨rfl, u2, b2⟩ := q2
      rw [bfA_fit (by simp only [List.length_nil, bytL_len]; omega)] at b2
      have x2 := x1.up u2 (by decide)
      have y2 := u2.at y1 hyn
      have c2 := c1.up u2 (by decide) (by decide)
      refine ks_aload_n dX10_writeSigned_54 rfl rfl ?_
      refine ks_iload dX10_writeSigned_55 rfl rfl ?_
      refine ks_if_eqN (tgt := 64) (by decide) dX10_writeSigned_57 (by decide) rfl (fun hc57 => ?_) (fun hc57 => ?_)
      · refine ks_aload_n dX10_writeSigned_64 rfl rfl ?_
        refine ks_getf (T := TX10) (kf := 1) kx_557 rfl in_X10 cl_X10 (by decide) x2.1 rfl dX10_writeSigned_65 rfl ?_
        have hal : sgAl ty = false := decide_eq_false (by omega)
        rw [hal] at hf2
        have hn : sgN k false = k := rfl
        rw [hn] at hf2
        refine ks_callV (n := 1) (M' := mX1_addCount) (bf_count (d := d + 1) (n := k) b2 (by decide) (by omega)) (b2.choose_spec.choose_spec.2.2.2.1) cl_X1 rfl kx_1353 kx_868 kx_869 kx_2 kx_870 (by decide +kernel) rfl (by decide) (Nat.le_of_ble_eq_true rfl) rfl dX10_writeSigned_68 rfl (fun r3 T3 q3 => ?_)
        obtain ⟨rfl, u3, b3⟩ := q3
        rw [bfA_fit (by simp only [List.length_append, List.length_nil, bytL_len]; omega)] at b3
        have x3 := x2.up u3 (by decide)
        have y3 := u3.at y2 hyn
        have c3 := c2.up u3 (by decide) (by decide)
        refine ks_iload dX10_writeSigned_71 rfl rfl ?_
        refine ks_if_eqN (tgt := 80) (by decide) dX10_writeSigned_73 (by decide) rfl (fun hc73 => ?_) (fun hc73 => ?_)
        · refine ks_iconst (x := nI 0) dX10_writeSigned_80 (by decide) rfl ?_
          refine ks_istore dX10_writeSigned_81 (by decide) rfl ?_
          refine ks_sub [(7, _), (0, _), (1, _), (2, _), (3, _), (4, _), (5, _), (6, _)] rfl ?_
          refine ks_X.mono (P := fun z S' => z = some (.int (ks_bo true)) ∧ ks_up S S' [40, 39] ∧ bfS S' 39 40 8000 (some (sgL g L b k p m u e inp ty code))) ?_ (fun z S' h => by rw [if_neg (by omega)]; exact h)
          refine (ks_sub [(0, _), (1, _), (2, _), (3, _), (4, _), (5, _), (6, _), (7, _)] ?_ (l_sgIn (kd := ty % 32) hg hL hN hyn hi hty (Nat.mod_lt _ (by decide)) (al := false) (by omega) (sgN k false) 0 (by omega) _ ([] ++ bytL g b 4 ++ cntL (sgN k false)) (by simp only [List.length_append, List.length_nil, bytL_len]; rw [hn]; omega) x3 y3 c3 (?_ : bfS _ _ _ _ _))).mono ?_
          · rfl
          · show bfS _ _ _ _ (some (_ ++ []))
            rw [List.append_nil]; exact b3
          · rintro z S' ⟨e1, e2, e3⟩
            refine ⟨e1, ((u1.trans u2).trans u3).trans e2, ?_⟩
            simp only [sgL, hal, List.append_assoc, List.nil_append] at e3 ⊢
            exact e3
        · exact absurd hc73 (by decide)
      · exact absurd hc57 (by decide)
    · rw [sg_bit ty hty] at hc27
      refine ks_iconst (x := nI 1) dX10_writeSigned_30 (by decide) rfl ?_
      refine ks_goto (tgt := 35) dX10_writeSigned_31 (by decide) ?_
      refine ks_istore dX10_writeSigned_35 (by decide) rfl ?_
      refine ks_sub [(6, _), (0, _), (1, _), (2, _), (3, _), (4, _), (5, _)] rfl ?_
      refine ks_aload_n dX10_writeSigned_37 rfl rfl ?_
      refine ks_callV (n := 0) (M' := mX1_clear) (bf_clear (d := d + 1) hB) (hB.choose_spec.choose_spec.2.2.2.1) cl_X1 rfl kx_1351 kx_843 kx_844 kx_2 kx_845 (by decide +kernel) rfl (by decide) (Nat.le_of_ble_eq_true rfl) rfl dX10_writeSigned_38 rfl (fun r1 T1 q1 => ?_)
      obtain ⟨rfl, u1, b1⟩ := q1
      have x1 := hX.up u1 (by decide)
      have y1 := u1.at hy hyn
      have c1 := hC.up u1 (by decide) (by decide)
      refine ks_aload_n dX10_writeSigned_41 rfl rfl ?_
      refine ks_aload_n dX10_writeSigned_42 rfl rfl ?_
      refine ks_getf (T := TX10) (kf := 0) kx_554 rfl in_X10 cl_X10 (by decide) x1.1 rfl dX10_writeSigned_43 rfl ?_
      refine ks_aload_n dX10_writeSigned_46 rfl rfl ?_
      refine ks_getf (T := TX10) (kf := 9) kx_571 rfl in_X10 cl_X10 (by decide) x1.1 rfl dX10_writeSigned_47 rfl ?_
      refine ks_iconst (x := nI 4) dX10_writeSigned_50 (by decide) rfl ?_
      have hf2 := hf
      simp only [sgL, List.length_append, bytL_len, numL_len] at hf2
      refine ks_callV (n := 3) (M' := mX1_addBytes) (bf_bytes (d := d) (i := b) (n := 4) b1 (by decide) y1 hg (by omega) (by omega)) (b1.choose_spec.choose_spec.2.2.2.1) cl_X1 rfl kx_1352 kx_872 kx_873 kx_2 kx_874 (by decide +kernel) rfl (by decide) (Nat.le_of_ble_eq_true rfl) rfl dX10_writeSigned_51 rfl (fun r2 T2 q2 => ?_)
      obtain ⟨rfl, u2, b2⟩ := q2
      rw [bfA_fit (by simp only [List.length_nil, bytL_len]; omega)] at b2
      have x2 := x1.up u2 (by decide)
      have y2 := u2.at y1 hyn
      have c2 := c1.up u2 (by decide) (by decide)
      refine ks_aload_n dX10_writeSigned_54 rfl rfl ?_
      refine ks_iload dX10_writeSigned_55 rfl rfl ?_
      refine ks_if_eqN (tgt := 64) (by decide) dX10_writeSigned_57 (by decide) rfl (fun hc57 => ?_) (fun hc57 => ?_)
      · exact absurd hc57 (by decide)
      · refine ks_iconst (x := nI 1) dX10_writeSigned_60 (by decide) rfl ?_
        refine ks_goto (tgt := 68) dX10_writeSigned_61 (by decide) ?_
        have hal : sgAl ty = true := decide_eq_true (by omega)
        rw [hal] at hf2
        have hn : sgN k true = 1 := rfl
        rw [hn] at hf2
        refine ks_callV (n := 1) (M' := mX1_addCount) (bf_count (d := d + 1) (n := 1) b2 (by decide) (by omega)) (b2.choose_spec.choose_spec.2.2.2.1) cl_X1 rfl kx_1353 kx_868 kx_869 kx_2 kx_870 (by decide +kernel) rfl (by decide) (Nat.le_of_ble_eq_true rfl) rfl dX10_writeSigned_68 rfl (fun r3 T3 q3 => ?_)
        obtain ⟨rfl, u3, b3⟩ := q3
        rw [bfA_fit (by simp only [List.length_append, List.length_nil, bytL_len]; omega)] at b3
        have x3 := x2.up u3 (by decide)
        have y3 := u3.at y2 hyn
        have c3 := c2.up u3 (by decide) (by decide)
        refine ks_iload dX10_writeSigned_71 rfl rfl ?_
        refine ks_if_eqN (tgt := 80) (by decide) dX10_writeSigned_73 (by decide) rfl (fun hc73 => ?_) (fun hc73 => ?_)
        · exact absurd hc73 (by decide)
        · refine ks_iload_n dX10_writeSigned_76 rfl rfl ?_
          refine ks_goto (tgt := 81) dX10_writeSigned_77 (by decide) ?_
          refine ks_istore dX10_writeSigned_81 (by decide) rfl ?_
          refine ks_sub [(7, _), (0, _), (1, _), (2, _), (3, _), (4, _), (5, _), (6, _)] rfl ?_
          refine ks_X.mono (P := fun z S' => z = some (.int (ks_bo true)) ∧ ks_up S S' [40, 39] ∧ bfS S' 39 40 8000 (some (sgL g L b k p m u e inp ty code))) ?_ (fun z S' h => by rw [if_neg (by omega)]; exact h)
          refine (ks_sub [(0, _), (1, _), (2, _), (3, _), (4, _), (5, _), (6, _), (7, _)] ?_ (l_sgIn (kd := ty % 32) hg hL hN hyn hi hty (Nat.mod_lt _ (by decide)) (al := true) (by omega) (sgN k true) 0 (by omega) _ ([] ++ bytL g b 4 ++ cntL (sgN k true)) (by simp only [List.length_append, List.length_nil, bytL_len]; rw [hn]; omega) x3 y3 c3 (?_ : bfS _ _ _ _ _))).mono ?_
          · rfl
          · show bfS _ _ _ _ (some (_ ++ []))
            rw [List.append_nil]; exact b3
          · rintro z S' ⟨e1, e2, e3⟩
            refine ⟨e1, ((u1.trans u2).trans u3).trans e2, ?_⟩
            simp only [sgL, hal, List.append_assoc, List.nil_append] at e3 ⊢
            exact e3
  · refine ks_iload_n dX10_writeSigned_12 rfl rfl ?_
    refine ks_aload_n dX10_writeSigned_13 rfl rfl ?_
    refine ks_getf (T := TX10) (kf := 2) kx_559 rfl in_X10 cl_X10 (by decide) hX.1 rfl dX10_writeSigned_14 rfl ?_
    refine ks_icmp_ltN (tgt := 22) (by omega) (by omega) dX10_writeSigned_17 (by decide) rfl (fun hc17 => ?_) (fun hc17 => ?_)
    · refine ks_iload_n dX10_writeSigned_22 rfl rfl ?_
      refine ks_sipush (x := nI 128) dX10_writeSigned_23 (by decide) rfl ?_
      refine ks_iand dX10_writeSigned_26 rfl ?_
      refine ks_if_eq (tgt := 34) dX10_writeSigned_27 (by decide) rfl (fun hc27 => ?_) (fun hc27 => ?_)
      · rw [sg_bit ty hty] at hc27
        refine ks_iconst (x := nI 0) dX10_writeSigned_34 (by decide) rfl ?_
        refine ks_istore dX10_writeSigned_35 (by decide) rfl ?_
        refine ks_sub [(6, _), (0, _), (1, _), (2, _), (3, _), (4, _), (5, _)] rfl ?_
        refine ks_aload_n dX10_writeSigned_37 rfl rfl ?_
        refine ks_callV (n := 0) (M' := mX1_clear) (bf_clear (d := d + 1) hB) (hB.choose_spec.choose_spec.2.2.2.1) cl_X1 rfl kx_1351 kx_843 kx_844 kx_2 kx_845 (by decide +kernel) rfl (by decide) (Nat.le_of_ble_eq_true rfl) rfl dX10_writeSigned_38 rfl (fun r1 T1 q1 => ?_)
        obtain ⟨rfl, u1, b1⟩ := q1
        have x1 := hX.up u1 (by decide)
        have y1 := u1.at hy hyn
        have c1 := hC.up u1 (by decide) (by decide)
        refine ks_aload_n dX10_writeSigned_41 rfl rfl ?_
        refine ks_aload_n dX10_writeSigned_42 rfl rfl ?_
        refine ks_getf (T := TX10) (kf := 0) kx_554 rfl in_X10 cl_X10 (by decide) x1.1 rfl dX10_writeSigned_43 rfl ?_
        refine ks_aload_n dX10_writeSigned_46 rfl rfl ?_
        refine ks_getf (T := TX10) (kf := 9) kx_571 rfl in_X10 cl_X10 (by decide) x1.1 rfl dX10_writeSigned_47 rfl ?_
        refine ks_iconst (x := nI 4) dX10_writeSigned_50 (by decide) rfl ?_
        have hf2 := hf
        simp only [sgL, List.length_append, bytL_len, numL_len] at hf2
        refine ks_callV (n := 3) (M' := mX1_addBytes) (bf_bytes (d := d) (i := b) (n := 4) b1 (by decide) y1 hg (by omega) (by omega)) (b1.choose_spec.choose_spec.2.2.2.1) cl_X1 rfl kx_1352 kx_872 kx_873 kx_2 kx_874 (by decide +kernel) rfl (by decide) (Nat.le_of_ble_eq_true rfl) rfl dX10_writeSigned_51 rfl (fun r2 T2 q2 => ?_)
        obtain ⟨rfl, u2, b2⟩ := q2
        rw [bfA_fit (by simp only [List.length_nil, bytL_len]; omega)] at b2
        have x2 := x1.up u2 (by decide)
        have y2 := u2.at y1 hyn
        have c2 := c1.up u2 (by decide) (by decide)
        refine ks_aload_n dX10_writeSigned_54 rfl rfl ?_
        refine ks_iload dX10_writeSigned_55 rfl rfl ?_
        refine ks_if_eqN (tgt := 64) (by decide) dX10_writeSigned_57 (by decide) rfl (fun hc57 => ?_) (fun hc57 => ?_)
        · refine ks_aload_n dX10_writeSigned_64 rfl rfl ?_
          refine ks_getf (T := TX10) (kf := 1) kx_557 rfl in_X10 cl_X10 (by decide) x2.1 rfl dX10_writeSigned_65 rfl ?_
          have hal : sgAl ty = false := decide_eq_false (by omega)
          rw [hal] at hf2
          have hn : sgN k false = k := rfl
          rw [hn] at hf2
          refine ks_callV (n := 1) (M' := mX1_addCount) (bf_count (d := d + 1) (n := k) b2 (by decide) (by omega)) (b2.choose_spec.choose_spec.2.2.2.1) cl_X1 rfl kx_1353 kx_868 kx_869 kx_2 kx_870 (by decide +kernel) rfl (by decide) (Nat.le_of_ble_eq_true rfl) rfl dX10_writeSigned_68 rfl (fun r3 T3 q3 => ?_)
          obtain ⟨rfl, u3, b3⟩ := q3
          rw [bfA_fit (by simp only [List.length_append, List.length_nil, bytL_len]; omega)] at b3
          have x3 := x2.up u3 (by decide)
          have y3 := u3.at y2 hyn
          have c3 := c2.up u3 (by decide) (by decide)
          refine ks_iload dX10_writeSigned_71 rfl rfl ?_
          refine ks_if_eqN (tgt := 80) (by decide) dX10_writeSigned_73 (by decide) rfl (fun hc73 => ?_) (fun hc73 => ?_)
          · refine ks_iconst (x := nI 0) dX10_writeSigned_80 (by decide) rfl ?_
            refine ks_istore dX10_writeSigned_81 (by decide) rfl ?_
            refine ks_sub [(7, _), (0, _), (1, _), (2, _), (3, _), (4, _), (5, _), (6, _)] rfl ?_
            refine ks_X.mono (P := fun z S' => z = some (.int (ks_bo true)) ∧ ks_up S S' [40, 39] ∧ bfS S' 39 40 8000 (some (sgL g L b k p m u e inp ty code))) ?_ (fun z S' h => by rw [if_neg (by omega)]; exact h)
            refine (ks_sub [(0, _), (1, _), (2, _), (3, _), (4, _), (5, _), (6, _), (7, _)] ?_ (l_sgIn (kd := ty % 32) hg hL hN hyn hi hty (Nat.mod_lt _ (by decide)) (al := false) (by omega) (sgN k false) 0 (by omega) _ ([] ++ bytL g b 4 ++ cntL (sgN k false)) (by simp only [List.length_append, List.length_nil, bytL_len]; rw [hn]; omega) x3 y3 c3 (?_ : bfS _ _ _ _ _))).mono ?_
            · rfl
            · show bfS _ _ _ _ (some (_ ++ []))
              rw [List.append_nil]; exact b3
            · rintro z S' ⟨e1, e2, e3⟩
              refine ⟨e1, ((u1.trans u2).trans u3).trans e2, ?_⟩
              simp only [sgL, hal, List.append_assoc, List.nil_append] at e3 ⊢
              exact e3
          · exact absurd hc73 (by decide)
        · exact absurd hc57 (by decide)
      · rw [sg_bit ty hty] at hc27
        refine ks_iconst (x := nI 1) dX10_writeSigned_30 (by decide) rfl ?_
        refine ks_goto (tgt := 35) dX10_writeSigned_31 (by decide) ?_
        refine ks_istore dX10_writeSigned_35 (by decide) rfl ?_
        refine ks_sub [(6, _), (0, _), (1, _), (2, _), (3, _), (4, _), (5, _)] rfl ?_
        refine ks_aload_n dX10_writeSigned_37 rfl rfl ?_
        refine ks_callV (n := 0) (M' := mX1_clear) (bf_clear (d := d + 1) hB) (hB.choose_spec.choose_spec.2.2.2.1) cl_X1 rfl kx_1351 kx_843 kx_844 kx_2 kx_845 (by decide +kernel) rfl (by decide) (Nat.le_of_ble_eq_true rfl) rfl dX10_writeSigned_38 rfl (fun r1 T1 q1 => ?_)
        obtain ⟨rfl, u1, b1⟩ := q1
        have x1 := hX.up u1 (by decide)
        have y1 := u1.at hy hyn
        have c1 := hC.up u1 (by decide) (by decide)
        refine ks_aload_n dX10_writeSigned_41 rfl rfl ?_
        refine ks_aload_n dX10_writeSigned_42 rfl rfl ?_
        refine ks_getf (T := TX10) (kf := 0) kx_554 rfl in_X10 cl_X10 (by decide) x1.1 rfl dX10_writeSigned_43 rfl ?_
        refine ks_aload_n dX10_writeSigned_46 rfl rfl ?_
        refine ks_getf (T := TX10) (kf := 9) kx_571 rfl in_X10 cl_X10 (by decide) x1.1 rfl dX10_writeSigned_47 rfl ?_
        refine ks_iconst (x := nI 4) dX10_writeSigned_50 (by decide) rfl ?_
        have hf2 := hf
        simp only [sgL, List.length_append, bytL_len, numL_len] at hf2
        refine ks_callV (n := 3) (M' := mX1_addBytes) (bf_bytes (d := d) (i := b) (n := 4) b1 (by decide) y1 hg (by omega) (by omega)) (b1.choose_spec.choose_spec.2.2.2.1) cl_X1 rfl kx_1352 kx_872 kx_873 kx_2 kx_874 (by decide +kernel) rfl (by decide) (Nat.le_of_ble_eq_true rfl) rfl dX10_writeSigned_51 rfl (fun r2 T2 q2 => ?_)
        obtain ⟨rfl, u2, b2⟩ := q2
        rw [bfA_fit (by simp only [List.length_nil, bytL_len]; omega)] at b2
        have x2 := x1.up u2 (by decide)
        have y2 := u2.at y1 hyn
        have c2 := c1.up u2 (by decide) (by decide)
        refine ks_aload_n dX10_writeSigned_54 rfl rfl ?_
        refine ks_iload dX10_writeSigned_55 rfl rfl ?_
        refine ks_if_eqN (tgt := 64) (by decide) dX10_writeSigned_57 (by decide) rfl (fun hc57 => ?_) (fun hc57 => ?_)
        · exact absurd hc57 (by decide)
        · refine ks_iconst (x := nI 1) dX10_writeSigned_60 (by decide) rfl ?_
          refine ks_goto (tgt := 68) dX10_writeSigned_61 (by decide) ?_
          have hal : sgAl ty = true := decide_eq_true (by omega)
          rw [hal] at hf2
          have hn : sgN k true = 1 := rfl
          rw [hn] at hf2
          refine ks_callV (n := 1) (M' := mX1_addCount) (bf_count (d := d + 1) (n := 1) b2 (by decide) (by omega)) (b2.choose_spec.choose_spec.2.2.2.1) cl_X1 rfl kx_1353 kx_868 kx_869 kx_2 kx_870 (by decide +kernel) rfl (by decide) (Nat.le_of_ble_eq_true rfl) rfl dX10_writeSigned_68 rfl (fun r3 T3 q3 => ?_)
          obtain ⟨rfl, u3, b3⟩ := q3
          rw [bfA_fit (by simp only [List.length_append, List.length_nil, bytL_len]; omega)] at b3
          have x3 := x2.up u3 (by decide)
          have y3 := u3.at y2 hyn
          have c3 := c2.up u3 (by decide) (by decide)
          refine ks_iload dX10_writeSigned_71 rfl rfl ?_
          refine ks_if_eqN (tgt := 80) (by decide) dX10_writeSigned_73 (by decide) rfl (fun hc73 => ?_) (fun hc73 => ?_)
          · exact absurd hc73 (by decide)
          · refine ks_iload_n dX10_writeSigned_76 rfl rfl ?_
            refine ks_goto (tgt := 81) dX10_writeSigned_77 (by decide) ?_
            refine ks_istore dX10_writeSigned_81 (by decide) rfl ?_
            refine ks_sub [(7, _), (0, _), (1, _), (2, _), (3, _), (4, _), (5, _), (6, _)] rfl ?_
            refine ks_X.mono (P := fun z S' => z = some (.int (ks_bo true)) ∧ ks_up S S' [40, 39] ∧ bfS S' 39 40 8000 (some (sgL g L b k p m u e inp ty code))) ?_ (fun z S' h => by rw [if_neg (by omega)]; exact h)
            refine (ks_sub [(0, _), (1, _), (2, _), (3, _), (4, _), (5, _), (6, _), (7, _)] ?_ (l_sgIn (kd := ty % 32) hg hL hN hyn hi hty (Nat.mod_lt _ (by decide)) (al := true) (by omega) (sgN k true) 0 (by omega) _ ([] ++ bytL g b 4 ++ cntL (sgN k true)) (by simp only [List.length_append, List.length_nil, bytL_len]; rw [hn]; omega) x3 y3 c3 (?_ : bfS _ _ _ _ _))).mono ?_
            · rfl
            · show bfS _ _ _ _ (some (_ ++ []))
              rw [List.append_nil]; exact b3
            · rintro z S' ⟨e1, e2, e3⟩
              refine ⟨e1, ((u1.trans u2).trans u3).trans e2, ?_⟩
              simp only [sgL, hal, List.append_assoc, List.nil_append] at e3 ⊢
              exact e3
    · refine ks_iconst (x := nI 0) dX10_writeSigned_20 (by decide) rfl ?_
      refine ks_zret rfl rfl dX10_writeSigned_21 ?_
      rw [if_pos (by omega)]
      exact ⟨rfl, rfl⟩
