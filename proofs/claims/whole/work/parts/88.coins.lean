/-! CHAIN: coins come -/
abbrev chO (n best : Nat) (cc : Int32) (tk : Int64) : ks_E := .inr (5, [.ref 42, .ref 43, .ref 44, .int (nI n), .int (nI best), .ref 7, .ref 27, .ref 20, .ref 48, .ref 49, .ref 50, .ref 51, .int cc, .long tk])
theorem bkK.set {S : ks_S} {b : Bk} {a : Nat} {e : ks_E} (h : bkK S b) (ha : a < 56) : bkK (ks_set S a e) b := h.up (ks_up_set S e (List.mem_singleton.mpr rfl)) (fun x hx => by rw [List.mem_singleton] at hx; omega)
theorem chX.obj {S : ks_S} {n best : Nat} {cc : Int32} {tk : Int64} {B : Nat → Bk} (h : chX S n best cc tk B) (b2 : Nat) (cc2 : Int32) (tk2 : Int64) : chX (ks_set S 41 (chO n b2 cc2 tk2)) n b2 cc2 tk2 B := by
  obtain ⟨h1, ⟨bf, h2, h3⟩, h4, h5⟩ := h
  exact ⟨ks_set_same _ _ _, ⟨bf, (ks_set_ne _ _ (by decide)).trans h2, h3⟩, fun i hi => (h4 i hi).set (by decide), h5⟩
theorem chX.row {S : ks_S} {n best : Nat} {cc : Int32} {tk : Int64} {B : Nat → Bk} (h : chX S n best cc tk B) {a : Nat} (e : ks_E) (ha : a < 56 ∧ a ≠ 41 ∧ a ≠ 42) : chX (ks_set S a e) n best cc tk B := h.up (ks_up_set S e (List.mem_singleton.mpr rfl)) ⟨fun x hx => by rw [List.mem_singleton] at hx; omega, fun hx => by rw [List.mem_singleton] at hx; omega, fun hx => by rw [List.mem_singleton] at hx; omega⟩
/-- the row of coins that is being made -/
def coS (S : ks_S) (L : List Nat) : Prop := ∃ f, S.2.2 50 = some (kN 580 f) ∧ L.length ≤ 580 ∧ ∀ i, i < L.length → f i = L.getD i 0
theorem coS.up {S S1 : ks_S} {L : List Nat} {X : List Nat} (h : coS S L) (hu : ks_up S S1 X) (hn : 50 ∉ X) : coS S1 L := by
  obtain ⟨f, h1, h2⟩ := h
  exact ⟨f, hu.at h1 hn, h2⟩
def plL (B : Nat → Bk) (ix : Int32) (id : Nat → Nat) (L : List Nat) : Nat := plD (fun i => cnIs B ix id (L.getD i 0)) L.length 0
theorem plL_b {B : Nat → Bk} {ix : Int32} {id : Nat → Nat} {L : List Nat} : plL B ix id L ≤ L.length := by
  have := @plD_b (fun i => cnIs B ix id (L.getD i 0)) L.length 0
  unfold plL
  omega
theorem c_ch_place {l : Launch} {G : ks_G} {d : Nat} {S : ks_S} {n best : Nat} {cc : Int32} {tk : Int64} {B : Nat → Bk} (hX : chX S n best cc tk B) {L : List Nat} (hL : coS S L) (hf : ∀ i, i < L.length → cnR n B (L.getD i 0)) {y Ny at_ : Nat} {ix : Int32} {gy : Nat → Nat} (hy : S.2.2 y = some (kB Ny gy)) (hgy : kO gy) (hNy : Ny < 2 ^ 20) (hat : at_ + 32 ≤ Ny) : ks_P l G yX2_placeOf mX2_placeOf (d + 1) [.ref 41, .ref 50, .int (nI L.length), .ref y, .int (nI at_), .int ix] S (fun z S' => z = some (.int (nI (plL B ix (fun j => gy (at_ + j)) L) - 1)) ∧ S' = S) := by
  obtain ⟨f, h1, h2, h3⟩ := hL
  refine (c_ch_placeOf hX h1 h2 (by decide) (fun i hi => by rw [h3 i hi]; exact hf i hi) hy hgy hNy hat).mono (fun z S' h => ?_)
  rw [h.1]
  refine ⟨?_, h.2⟩
  unfold plL
  rw [plD_congr (f := fun i => cnIs B ix (fun j => gy (at_ + j)) (f i)) (g := fun i => cnIs B ix (fun j => gy (at_ + j)) (L.getD i 0)) (fun j _ hj => by show cnIs _ _ _ (f j) = cnIs _ _ _ _; rw [h3 j (by omega)])]
set_option maxRecDepth 100000 in
set_option maxHeartbeats 800000 in
theorem c_ch_startFrom {l : Launch} {G : ks_G} {d : Nat} {S : ks_S} {n best : Nat} {cc : Int32} {tk : Int64} {B : Nat → Bk} (hX : chX S n best cc tk B) {q r : Nat} {L : List Nat} {f0 : Nat → Nat} (hq : q < n) (hc : bkC (B q) = some (r, L)) (h50 : S.2.2 50 = some (kN 580 f0)) : ks_P l G yX2_startFrom mX2_startFrom (d + 1) [.ref 41, .int (nI q)] S (fun z S' => z = none ∧ ks_up S S' [41, 50] ∧ chX S' n best (nI L.length) tk B ∧ coS S' L) := by
  obtain ⟨hO, ⟨bf, h42, hbf⟩, hB, hn60⟩ := id hX
  obtain ⟨g1x, f2x, g3x, g4x, ox, lex, egx, blx, stx, idx, hsx, cox⟩ := hB q (by omega)
  obtain ⟨hr, hrB, hr56, hr4⟩ := cox _ hc
  rw [hc] at ox
  have hr : S.2.2 r = some (kN L.length (fun j => L.getD j 0)) := hr
  have hrB : r < ks_B := hrB
  have hr56 : 56 ≤ r := hr56
  have hr4 : L.length ≤ 400 := hr4
  have b56 := ox.2.2.2.2.2.2.2.2.2
  refine ks_of (by decide) rfl rfl (Nat.le_of_ble_eq_true rfl) ?_
  show ks_X l G mX2_startFrom (d + 1) 0 [(0, .ref 41), (1, .int (nI q))] [] S _
  refine ks_aload_n dX2_startFrom_0 rfl rfl ?_
  refine ks_iconst (x := nI 0) dX2_startFrom_1 (by decide) rfl ?_
  refine ks_putf (T := TX2) (kf := 12) kx_746 rfl in_X2 tyX2_ok nmX2 cl_X2 (by decide) hO (Nat.le_of_ble_eq_true rfl) rfl rfl rfl rfl dX2_startFrom_2 rfl ?_
  refine ks_iload_n dX2_startFrom_5 rfl rfl ?_
  refine ks_if_ltN (tgt := 57) (by omega) dX2_startFrom_6 (by decide) rfl ?_
  refine ks_aload_n dX2_startFrom_9 rfl rfl ?_
  refine ks_getf (T := TX2) (kf := 0) kx_729 rfl in_X2 cl_X2 (by decide) (ks_set_same _ _ _) rfl dX2_startFrom_10 rfl ?_
  refine ks_iload_n dX2_startFrom_13 rfl rfl ?_
  refine ks_aaldN (i := q) (b := (bkN (B q))) (by decide) ((ks_set_ne _ _ (by decide)).trans h42) rfl (by omega) (by decide) (hbf q (by omega)) dX2_startFrom_14 rfl ?_
  refine ks_getf (T := TX0) (kf := 10) kx_959 rfl in_X0 cl_X0 (by decide) ((ks_set_ne _ _ (by omega)).trans ox.1) rfl dX2_startFrom_15 rfl ?_
  refine ks_ifnull dX2_startFrom_18 rfl ?_
  refine ks_aload_n dX2_startFrom_21 rfl rfl ?_
  refine ks_aload_n dX2_startFrom_22 rfl rfl ?_
  refine ks_getf (T := TX2) (kf := 0) kx_729 rfl in_X2 cl_X2 (by decide) (ks_set_same _ _ _) rfl dX2_startFrom_23 rfl ?_
  refine ks_iload_n dX2_startFrom_26 rfl rfl ?_
  refine ks_aaldN (i := q) (b := (bkN (B q))) (by decide) ((ks_set_ne _ _ (by decide)).trans h42) rfl (by omega) (by decide) (hbf q (by omega)) dX2_startFrom_27 rfl ?_
  refine ks_getf (T := TX0) (kf := 10) kx_959 rfl in_X0 cl_X0 (by decide) ((ks_set_ne _ _ (by omega)).trans ox.1) rfl dX2_startFrom_28 rfl ?_
  refine ks_alen (by decide) ((ks_set_ne _ _ (by omega)).trans hr) rfl hrB dX2_startFrom_31 rfl ?_
  refine ks_ti (y := nI L.length) rfl ?_
  refine ks_putf (T := TX2) (kf := 12) kx_746 rfl in_X2 tyX2_ok nmX2 cl_X2 (by decide) (ks_set_same _ _ _) (Nat.le_of_ble_eq_true rfl) rfl rfl rfl rfl dX2_startFrom_32 rfl ?_
  refine ks_aload_n dX2_startFrom_35 rfl rfl ?_
  refine ks_getf (T := TX2) (kf := 0) kx_729 rfl in_X2 cl_X2 (by decide) (ks_set_same _ _ _) rfl dX2_startFrom_36 rfl ?_
  refine ks_iload_n dX2_startFrom_39 rfl rfl ?_
  refine ks_aaldN (i := q) (b := (bkN (B q))) (by decide) ((ks_set_ne _ _ (by decide)).trans ((ks_set_ne _ _ (by decide)).trans h42)) rfl (by omega) (by decide) (hbf q (by omega)) dX2_startFrom_40 rfl ?_
  refine ks_getf (T := TX0) (kf := 10) kx_959 rfl in_X0 cl_X0 (by decide) ((ks_set_ne _ _ (by omega)).trans ((ks_set_ne _ _ (by omega)).trans ox.1)) rfl dX2_startFrom_41 rfl ?_
  refine ks_iconst (x := nI 0) dX2_startFrom_44 (by decide) rfl ?_
  refine ks_aload_n dX2_startFrom_45 rfl rfl ?_
  refine ks_getf (T := TX2) (kf := 10) kx_744 rfl in_X2 cl_X2 (by decide) (ks_set_same _ _ _) rfl dX2_startFrom_46 rfl ?_
  refine ks_iconst (x := nI 0) dX2_startFrom_49 (by decide) rfl ?_
  refine ks_aload_n dX2_startFrom_50 rfl rfl ?_
  refine ks_getf (T := TX2) (kf := 12) kx_746 rfl in_X2 cl_X2 (by decide) (ks_set_same _ _ _) rfl dX2_startFrom_51 rfl ?_
  refine ks_copyi (n := L.length) (dp := 0) (sp := 0) (t := 1) rfl (fun h => by first | rfl | cases h) rfl (by decide) ((ks_set_ne _ _ (by omega)).trans ((ks_set_ne _ _ (by omega)).trans hr)) ((ks_set_ne _ _ (by decide)).trans ((ks_set_ne _ _ (by decide)).trans h50)) (by omega) (by omega) (by omega) (by decide) (fun _ => rfl) kx_1531 kx_275 kx_274 kx_17 (by omega) (Nat.le_of_ble_eq_true rfl) dX2_startFrom_54 rfl ?_
  refine ks_tS (by rw [kN_cpy]) ?_
  refine ks_ret rfl dX2_startFrom_57 ?_
  have u1 : ks_up S (ks_set S 41 (chO n best (nI L.length) tk)) [41, 50] := ks_up_set _ _ (by decide)
  have X1 := hX.obj best (nI L.length) tk
  refine ⟨rfl, ?_, ?_, ?_⟩
  · repeat first | exact ks_up_set _ _ (by decide) | refine ks_up.trans ?_ (ks_up_set _ _ (by decide))
  · have X2 := (hX.obj best (nI 0) tk).obj best (nI L.length) tk
    exact X2.row _ (by decide)
  · exact ⟨_, ks_set_same _ _ _, by omega, fun i hi => by unfold va_cpy; rw [if_pos (by omega), show 0 + (i - 0) = i by omega]⟩
/-- the coin of an output -/
def cnI (M : List Nat) (b t o : Nat) : Nat := b * 2 ^ 23 + t * 2 ^ 19 + o * 2 ^ 11 + oA (mg M) M.length (txP M t).2.2.2.1 o
def adC (B : Nat → Bk) (b t : Nat) : Nat → Nat → List Nat → List Nat
  | 0, _, L => L
  | u + 1, o, L => adC B b t u (o + 1) (if plL B (nI o) (fun j => idB (bkM (B b)) t j) L = 0 then L ++ [cnI (bkM (B b)) b t o] else L.set (plL B (nI o) (fun j => idB (bkM (B b)) t j) L - 1) (cnI (bkM (B b)) b t o))
theorem cnI_d {M : List Nat} {b t o : Nat} (hb : b < 60) (ht : t < 12) (ho : o < 180) (ha : oA (mg M) M.length (txP M t).2.2.2.1 o < 2048) : cnI M b t o < 2 ^ 31 ∧ cnI M b t o / 2 ^ 23 = b ∧ cnI M b t o / 2 ^ 19 % 16 = t ∧ cnI M b t o / 2 ^ 11 % 256 = o ∧ cnI M b t o % 2048 = oA (mg M) M.length (txP M t).2.2.2.1 o := by
  unfold cnI
  generalize oA (mg M) M.length (txP M t).2.2.2.1 o = a at *
  omega
theorem cnI_R {S : ks_S} {n : Nat} {B : Nat → Bk} {b t o : Nat} (hB : bkK S (B b)) (hb : b < n) (hn : n ≤ 60) (ht : t < mg (bkM (B b)) 80) (ho : o < (txP (bkM (B b)) t).2.2.1) : cnR n B (cnI (bkM (B b)) b t o) ∧ cnI (bkM (B b)) b t o / 2 ^ 23 = b := by
  obtain ⟨g1, f2, g3, g4, h1, h2, h3, h4, h5⟩ := hB
  have b9 := blk_b h4
  have q := bk_tx h4 ht
  have q2 := tx_out (bk_tx5 h4 ht) o ho
  have q3 := tx_bd (bk_tx5 h4 ht)
  have d := @cnI_d (bkM (B b)) b t o (by omega) (by omega) (by omega) (by omega)
  refine ⟨⟨d.1, ?_, ?_, ?_⟩, d.2.1⟩
  · rw [d.2.1]; exact hb
  · rw [d.2.1, d.2.2.1]; exact ht
  · rw [d.2.1, d.2.2.2.2]; omega
theorem L_set {L : List Nat} {i c j : Nat} (hi : i < L.length) : (L.set i c).getD j 0 = if j = i then c else L.getD j 0 := by
  by_cases e : j = i
  · subst e; rw [if_pos rfl]; simp [List.getD, hi]
  · rw [if_neg e]; simp [List.getD, List.getElem?_set, Ne.symm e]
set_option maxRecDepth 100000 in
set_option maxHeartbeats 800000 in
theorem c_ch_addCoins {l : Launch} {G : ks_G} {d : Nat} {S : ks_S} {n best : Nat} {tk : Int64} {B : Nat → Bk} {L : List Nat} (hX : chX S n best (nI L.length) tk B) (hL : coS S L) (hl4 : L.length ≤ 400) (hf : ∀ i, i < L.length → cnR n B (L.getD i 0)) {b t y9 a9 : Nat} {g9 : Nat → Nat} (hb : b < n) (ht : t < mg (bkM (B b)) 80) (hV : tv_ok S y9 g9 (bkM (B b)).length a9 (txP (bkM (B b)) t).1 (txP (bkM (B b)) t).2.1 (txP (bkM (B b)) t).2.2.1 (txP (bkM (B b)) t).2.2.2.1 (txP (bkM (B b)) t).2.2.2.2) (eg9 : ∀ j, j < (bkM (B b)).length → g9 j = mg (bkM (B b)) j) : ks_P l G yX2_addCoins mX2_addCoins (d + 2) [.ref 41, .int (nI b), .int (nI t)] S (fun z S' => z = none ∧ ks_up S S' [41, 50] ∧ chX S' n best (nI (adC B b t (txP (bkM (B b)) t).2.2.1 0 L).length) tk B ∧ coS S' (adC B b t (txP (bkM (B b)) t).2.2.1 0 L) ∧ (adC B b t (txP (bkM (B b)) t).2.2.1 0 L).length ≤ L.length + (txP (bkM (B b)) t).2.2.1 ∧ ∀ i, i < (adC B b t (txP (bkM (B b)) t).2.2.1 0 L).length → cnR n B ((adC B b t (txP (bkM (B b)) t).2.2.1 0 L).getD i 0)) := by
  have hn60 := hX.2.2.2
  have q9 := bk_tx (Classical.choose_spec (Classical.choose_spec (Classical.choose_spec (Classical.choose_spec (hX.2.2.1 b hb))))).2.2.2.1 ht
  have hb12 := blk_b (Classical.choose_spec (Classical.choose_spec (Classical.choose_spec (Classical.choose_spec (hX.2.2.1 b hb))))).2.2.2.1
  have tx6 := bk_tx5 (Classical.choose_spec (Classical.choose_spec (Classical.choose_spec (Classical.choose_spec (hX.2.2.1 b hb))))).2.2.2.1 ht
  have q8 := tx_bd tx6
  obtain ⟨R, hR⟩ : ∃ R, adC B b t (txP (bkM (B b)) t).2.2.1 0 L = R := ⟨_, rfl⟩
  rw [hR]
  obtain ⟨fA, fS, fZ, hA, hS, hZ, h21, h22, h23, h24, h25, h26, hI, hU⟩ := tv_get hV
  obtain ⟨m, hm⟩ : ∃ m, (txP (bkM (B b)) t).2.2.1 = m := ⟨_, rfl⟩
  rw [hm] at hR ⊢
  have hm180 : m ≤ 180 := by omega
  have eA : ∀ o, o < m → hA o = oA (mg (bkM (B b))) (bkM (B b)).length (txP (bkM (B b)) t).2.2.2.1 o := fun o ho => by rw [(hU o (by omega)).1, oA_c eg9]
  have loop : ∀ (u o : Nat) (S1 : ks_S) (L1 : List Nat), o + u = m → adC B b t u o L1 = R → ks_up S S1 [41, 50] → chX S1 n best (nI L1.length) tk B → coS S1 L1 → L1.length ≤ L.length + o → (∀ i, i < L1.length → cnR n B (L1.getD i 0)) → ks_X l G mX2_addCoins (d + 2) 2 [(0, .ref 41), (1, .int (nI b)), (2, .int (nI t)), (3, .int (nI o))] [] S1 (fun z S' => z = none ∧ ks_up S S' [41, 50] ∧ chX S' n best (nI R.length) tk B ∧ coS S' R ∧ R.length ≤ L.length + m ∧ ∀ i, i < R.length → cnR n B (R.getD i 0)) := by
    intro u
    induction u with
    | zero =>
      intro o S1 L1 hou hr hu X1 C1 hl1 hf1
      obtain ⟨hO, ⟨bf, h42, hbf⟩, hB, -⟩ := id X1
      have V1 := hu.at hV.1 (by decide)
      rw [hm] at V1
      have v24 := hu.at h24 (by decide)
      obtain ⟨f, h50, hl58, hff⟩ := id C1
      obtain ⟨g1x, f2x, g3x, g4x, ox, lex, egx, blx, stx, idx, hsx, cox⟩ := hB b (by omega)
      refine ks_iload_n dX2_addCoins_2 rfl rfl ?_
      refine ks_aload_n dX2_addCoins_3 rfl rfl ?_
      refine ks_getf (T := TX2) (kf := 7) kx_741 rfl in_X2 cl_X2 (by decide) hO rfl dX2_addCoins_4 rfl ?_
      refine ks_getf (T := TX10) (kf := 2) kx_560 rfl in_X10 cl_X10 (by decide) V1 rfl dX2_addCoins_7 rfl ?_
      refine ks_icmp_geN (tgt := 114) (by omega) (by omega) dX2_addCoins_10 (by decide) rfl (fun h1 => ?_) (fun h1 => ?_)
      · refine ks_ret rfl dX2_addCoins_114 ?_
        have e9 : R = L1 := hr.symm
        rw [e9]
        exact ⟨rfl, hu, X1, C1, by omega, hf1⟩
      · omega
    | succ u ih =>
      intro o S1 L1 hou hr hu X1 C1 hl1 hf1
      obtain ⟨hO, ⟨bf, h42, hbf⟩, hB, -⟩ := id X1
      have V1 := hu.at hV.1 (by decide)
      rw [hm] at V1
      have v24 := hu.at h24 (by decide)
      obtain ⟨f, h50, hl58, hff⟩ := id C1
      obtain ⟨g1x, f2x, g3x, g4x, ox, lex, egx, blx, stx, idx, hsx, cox⟩ := hB b (by omega)
      refine ks_iload_n dX2_addCoins_2 rfl rfl ?_
      refine ks_aload_n dX2_addCoins_3 rfl rfl ?_
      refine ks_getf (T := TX2) (kf := 7) kx_741 rfl in_X2 cl_X2 (by decide) hO rfl dX2_addCoins_4 rfl ?_
      refine ks_getf (T := TX10) (kf := 2) kx_560 rfl in_X10 cl_X10 (by decide) V1 rfl dX2_addCoins_7 rfl ?_
      refine ks_icmp_geN (tgt := 114) (by omega) (by omega) dX2_addCoins_10 (by decide) rfl (fun h1 => ?_) (fun h1 => ?_)
      · omega
      · have b56 := ox.2.2.2.2.2.2.2.2.2
        have q7 := tx_out tx6 o (by omega)
        have cR := cnI_R (hB b hb) hb hn60 ht (by omega : o < _)
        have cd := @cnI_d (bkM (B b)) b t o (by omega) (by omega) (by omega) (by omega)
        rw [adC] at hr
        refine ks_aload_n dX2_addCoins_13 rfl rfl ?_
        refine ks_aload_n dX2_addCoins_14 rfl rfl ?_
        refine ks_getf (T := TX2) (kf := 10) kx_744 rfl in_X2 cl_X2 (by decide) hO rfl dX2_addCoins_15 rfl ?_
        refine ks_aload_n dX2_addCoins_18 rfl rfl ?_
        refine ks_getf (T := TX2) (kf := 12) kx_746 rfl in_X2 cl_X2 (by decide) hO rfl dX2_addCoins_19 rfl ?_
        refine ks_aload_n dX2_addCoins_22 rfl rfl ?_
        refine ks_getf (T := TX2) (kf := 0) kx_729 rfl in_X2 cl_X2 (by decide) hO rfl dX2_addCoins_23 rfl ?_
        refine ks_iload_n dX2_addCoins_26 rfl rfl ?_
        refine ks_aaldN (i := b) (b := (bkN (B b))) (by decide) h42 rfl (by omega) (by decide) (hbf b (by omega)) dX2_addCoins_27 rfl ?_
        refine ks_getf (T := TX0) (kf := 2) kx_941 rfl in_X0 cl_X0 (by decide) ox.1 rfl dX2_addCoins_28 rfl ?_
        refine ks_bipush (x := nI 32) dX2_addCoins_31 (by decide) rfl ?_
        refine ks_iload_n dX2_addCoins_33 rfl rfl ?_
        refine ks_mulN dX2_addCoins_34 rfl ?_
        refine ks_iload_n dX2_addCoins_35 rfl rfl ?_
        refine ks_callV (n := 5) (M' := mX2_placeOf) (c_ch_place (d := d) (at_ := 32 * t) (ix := nI o) X1 C1 hf1 ox.2.2.2.1 ox.2.2.2.2.2.2.1 (by decide) (by omega)) hO cl_X2 rfl kx_1028 kx_1030 kxp_15 kx_26 kx_1031 (by decide +kernel) rfl (by decide) (Nat.le_of_ble_eq_true rfl) rfl dX2_addCoins_36 rfl (fun z1 T1 y1 => ?_)
        obtain ⟨rfl, hT1⟩ := y1
        obtain rfl := hT1.symm
        have ep : plL B (nI o) (fun j => g3x (32 * t + j)) L1 = plL B (nI o) (fun j => idB (bkM (B b)) t j) L1 := by
          unfold plL
          refine plD_congr (fun i _ _ => ?_)
          unfold cnIs
          rw [sm32_c (h := fun j => g3x (32 * t + j)) (h2 := fun j => idB (bkM (B b)) t j) (a2 := 0) (b2 := 0) (fun j _ => rfl) (fun j hj => by rw [Nat.zero_add]; exact idx t ht j hj)]
        rw [ep]
        have pb := @plL_b B (nI o) (fun j => idB (bkM (B b)) t j) L1
        generalize plL B (nI o) (fun j => idB (bkM (B b)) t j) L1 = p at *
        have store : ∀ (S2 : ks_S) (P : Nat) (L2 : List Nat), ks_up S S2 [41, 50] → chX S2 n best (nI L2.length) tk B → S2.2.2 50 = some (kN 580 f) → P < L2.length → L2.length ≤ L.length + (o + 1) → (∀ i, i < L2.length → i ≠ P → f i = L2.getD i 0 ∧ cnR n B (L2.getD i 0)) → L2.getD P 0 = cnI (bkM (B b)) b t o → adC B b t u (o + 1) L2 = R → ks_X l G mX2_addCoins (d + 2) 72 [(0, .ref 41), (1, .int (nI b)), (2, .int (nI t)), (3, .int (nI o)), (4, .int (nI P))] [] S2 (fun z S' => z = none ∧ ks_up S S' [41, 50] ∧ chX S' n best (nI R.length) tk B ∧ coS S' R ∧ R.length ≤ L.length + m ∧ ∀ i, i < R.length → cnR n B (R.getD i 0)) := by
          intro S2 P L2 hu2 X2 h50b hP hl2 hL2 hPc hr2
          have V2 := hu2.at hV.1 (by decide)
          rw [hm] at V2
          have w24 := hu2.at h24 (by decide)
          refine ks_iload dX2_addCoins_72 rfl rfl ?_
          refine ks_if_ltN (tgt := 108) (by omega) dX2_addCoins_74 (by decide) rfl ?_
          refine ks_aload_n dX2_addCoins_77 rfl rfl ?_
          refine ks_getf (T := TX2) (kf := 10) kx_744 rfl in_X2 cl_X2 (by decide) X2.1 rfl dX2_addCoins_78 rfl ?_
          refine ks_iload dX2_addCoins_81 rfl rfl ?_
          refine ks_iload_n dX2_addCoins_83 rfl rfl ?_
          refine ks_bipush (x := nI 23) dX2_addCoins_84 (by decide) rfl ?_
          refine ks_shlN (k := 23) (by decide) (by omega) dX2_addCoins_86 rfl ?_
          refine ks_iload_n dX2_addCoins_87 rfl rfl ?_
          refine ks_bipush (x := nI 19) dX2_addCoins_88 (by decide) rfl ?_
          refine ks_shlN (k := 19) (by decide) (by omega) dX2_addCoins_90 rfl ?_
          refine ks_or2 (a := b) (k := 23) (by omega) (by omega) dX2_addCoins_91 rfl ?_
          refine ks_ti (y := nI ((b * 16 + t) * 2 ^ 19)) (congrArg nI (by omega)) ?_
          refine ks_iload_n dX2_addCoins_92 rfl rfl ?_
          refine ks_bipush (x := nI 11) dX2_addCoins_93 (by decide) rfl ?_
          refine ks_shlN (k := 11) (by decide) (by omega) dX2_addCoins_95 rfl ?_
          refine ks_or2 (a := (b * 16 + t)) (k := 19) (by omega) (by omega) dX2_addCoins_96 rfl ?_
          refine ks_ti (y := nI (((b * 16 + t) * 256 + o) * 2 ^ 11)) (congrArg nI (by omega)) ?_
          refine ks_aload_n dX2_addCoins_97 rfl rfl ?_
          refine ks_getf (T := TX2) (kf := 7) kx_741 rfl in_X2 cl_X2 (by decide) X2.1 rfl dX2_addCoins_98 rfl ?_
          refine ks_getf (T := TX10) (kf := 6) kx_568 rfl in_X10 cl_X10 (by decide) V2 rfl dX2_addCoins_101 rfl ?_
          refine ks_iload_n dX2_addCoins_104 rfl rfl ?_
          refine ks_ialdN (i := o) w24 rfl (by omega) (by decide) dX2_addCoins_105 rfl ?_
          rw [eA o (by omega)]
          refine ks_or2 (a := ((b * 16 + t) * 256 + o)) (k := 11) (by omega) (by omega) dX2_addCoins_106 rfl ?_
          refine ks_iastNN (i := P) (v := ((b * 16 + t) * 256 + o) * 2 ^ 11 + (oA (mg (bkM (B b))) (bkM (B b)).length (txP (bkM (B b)) t).2.2.2.1 o)) (by decide) h50b (by omega) (by decide) dX2_addCoins_107 rfl ?_
          refine ks_incN (c := 1) (e := o + 1) dX2_addCoins_108 rfl (by decide) rfl (by decide) rfl ?_
          refine ks_sub [(3, _), (0, _), (1, _), (2, _), (4, _)] rfl ?_
          refine ks_goto (tgt := 2) dX2_addCoins_111 (by decide) ?_
          have ec : ((b * 16 + t) * 256 + o) * 2 ^ 11 + oA (mg (bkM (B b))) (bkM (B b)).length (txP (bkM (B b)) t).2.2.2.1 o = cnI (bkM (B b)) b t o := by unfold cnI; omega
          refine ks_sub [(0, _), (1, _), (2, _), (3, _)] rfl (ih (o + 1) _ L2 (by omega) hr2 (hu2.trans (ks_up_set _ _ (by decide))) (X2.row _ (by decide)) ⟨_, ks_set_same _ _ _, by omega, fun i hi => ?_⟩ hl2 (fun i hi => ?_))
          · by_cases e : i = P
            · subst e; rw [va_up_self, ec]; exact hPc.symm
            · rw [va_up_ne _ _ e]; exact (hL2 i hi e).1
          · by_cases e : i = P
            · subst e; rw [hPc]; exact cR.1
            · exact (hL2 i hi e).2
        refine ks_istore dX2_addCoins_39 (by decide) rfl ?_
        refine ks_sub [(4, _), (0, _), (1, _), (2, _), (3, _)] rfl ?_
        refine ks_iload dX2_addCoins_41 rfl rfl ?_
        refine ks_if_geD (tgt := 72) (by omega) dX2_addCoins_43 (by decide) rfl (fun h2 => ?_) (fun h2 => ?_)
        · rw [if_neg h2] at hr
          rw [nI_D (by omega : 0 < p)]
          refine ks_sub [(0, _), (1, _), (2, _), (3, _), (4, _)] rfl (store S1 (p - 1) (L1.set (p - 1) (cnI (bkM (B b)) b t o)) hu ?_ h50 (by rw [List.length_set]; omega) (by rw [List.length_set]; omega) (fun i hi e => ?_) (by rw [L_set (by omega), if_pos rfl]) hr)
          · rw [List.length_set]; exact X1
          · rw [List.length_set] at hi
            rw [L_set (by omega), if_neg e]
            exact ⟨hff i hi, hf1 i hi⟩
        · rw [if_pos h2] at hr
          refine ks_aload_n dX2_addCoins_46 rfl rfl ?_
          refine ks_getf (T := TX2) (kf := 12) kx_746 rfl in_X2 cl_X2 (by decide) hO rfl dX2_addCoins_47 rfl ?_
          refine ks_sipush (x := nI 580) dX2_addCoins_50 (by decide) rfl ?_
          refine ks_icmp_geN (tgt := 72) (by omega) (by decide) dX2_addCoins_53 (by decide) rfl (fun h4 => ?_) (fun h4 => ?_)
          · omega
          · refine ks_aload_n dX2_addCoins_56 rfl rfl ?_
            refine ks_getf (T := TX2) (kf := 12) kx_746 rfl in_X2 cl_X2 (by decide) hO rfl dX2_addCoins_57 rfl ?_
            refine ks_istore dX2_addCoins_60 (by decide) rfl ?_
            refine ks_sub [(4, _), (0, _), (1, _), (2, _), (3, _)] rfl ?_
            refine ks_aload_n dX2_addCoins_62 rfl rfl ?_
            refine ks_dup dX2_addCoins_63 rfl rfl ?_
            refine ks_getf (T := TX2) (kf := 12) kx_746 rfl in_X2 cl_X2 (by decide) hO rfl dX2_addCoins_64 rfl ?_
            refine ks_iconst (x := nI 1) dX2_addCoins_67 (by decide) rfl ?_
            refine ks_addN dX2_addCoins_68 rfl ?_
            refine ks_putf (T := TX2) (kf := 12) kx_746 rfl in_X2 tyX2_ok nmX2 cl_X2 (by decide) hO (Nat.le_of_ble_eq_true rfl) rfl rfl rfl rfl dX2_addCoins_69 rfl ?_
            refine ks_sub [(0, _), (1, _), (2, _), (3, _), (4, _)] rfl (store _ L1.length (L1 ++ [cnI (bkM (B b)) b t o]) (hu.trans (ks_up_set _ _ (by decide))) ?_ ((ks_set_ne _ _ (by decide)).trans h50) (by simp) (by simp; omega) (fun i hi e => ?_) (by rw [getD_app, if_neg (by omega), Nat.sub_self]; rfl) hr)
            · have X2 := X1.obj best (nI (L1 ++ [cnI (bkM (B b)) b t o]).length) tk
              rw [show (L1 ++ [cnI (bkM (B b)) b t o]).length = L1.length + 1 by simp] at X2 ⊢
              exact X2
            · have hi2 : i < L1.length := by simp at hi; omega
              rw [getD_app, if_pos hi2]
              exact ⟨hff i hi2, hf1 i hi2⟩
  refine ks_of (by decide) rfl rfl (Nat.le_of_ble_eq_true rfl) ?_
  show ks_X l G mX2_addCoins (d + 2) 0 [(0, .ref 41), (1, .int (nI b)), (2, .int (nI t))] [] S _
  refine ks_iconst (x := nI 0) dX2_addCoins_0 (by decide) rfl ?_
  refine ks_istore_n dX2_addCoins_1 (by decide) rfl ?_
  refine ks_sub [(3, _), (0, _), (1, _), (2, _)] rfl ?_
  exact ks_sub [(0, _), (1, _), (2, _), (3, _)] rfl (loop m 0 S L (by omega) hR (ks_up.rf _ _) hX hL (by omega) hf)
