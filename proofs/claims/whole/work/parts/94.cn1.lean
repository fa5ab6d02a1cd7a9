/-! CHAIN: connect -/
theorem mkF_c {f g : Nat → Nat} {k : Nat} (h : ∀ i, i < k → f i = g i) : mkF f k = mkF g k := by
  funext i
  apply Bool.eq_iff_iff.mpr
  rw [mkF_iff, mkF_iff]
  exact ⟨fun ⟨q, a, b⟩ => ⟨q, a, by rw [← h q a]; exact b⟩, fun ⟨q, a, b⟩ => ⟨q, a, by rw [h q a]; exact b⟩⟩
/-- connecting: the reason (0: none) and the coins -/
def cnF (B : Nat → Bk) (M : List Nat) (b h : Nat) : Nat → Nat → List Nat → Nat → Nat × List Nat
  | 0, _, L, left => if 5000000000 / 2 ^ (h / 12) + left < vaM M 0 then (15, L) else (0, L)
  | u + 1, t, L, left => if t = 0 then (if 400 < (adC B b 0 (txP M 0).2.2.1 0 L).length then (16, L) else cnF B M b h u 1 (adC B b 0 (txP M 0).2.2.1 0 L) left)
    else if (fcF B M t h L (txP M t).1 0 0).1 ≠ 0 then ((fcF B M t h L (txP M t).1 0 0).1, L)
    else if (fcF B M t h L (txP M t).1 0 0).2 < vaM M t then (13, L)
    else if ∃ i, i < (txP M t).1 ∧ ukM B M t i (L.getD (fiP B M t L i - 1) 0) = false then (14, L)
    else if 400 < (adC B b t (txP M t).2.2.1 0 (tkN (mkF (fun i => fiP B M t L i - 1) (txP M t).1) L L.length)).length then (16, L)
    else cnF B M b h u (t + 1) (adC B b t (txP M t).2.2.1 0 (tkN (mkF (fun i => fiP B M t L i - 1) (txP M t).1) L L.length)) (left + ((fcF B M t h L (txP M t).1 0 0).2 - vaM M t))
theorem adC_G {n : Nat} {B : Nat → Bk} {b t : Nat} (hb : b < n) (ht : t < mg (bkM (B b)) 80) : ∀ (u o : Nat) (L : List Nat), o + u = (txP (bkM (B b)) t).2.2.1 → (∀ x ∈ L, cnG n B x) → ∀ x ∈ adC B b t u o L, cnG n B x
  | 0, o, L, _, h => h
  | u + 1, o, L, hou, h => by
    unfold adC
    refine adC_G hb ht u (o + 1) _ (by omega) ?_
    have hc : cnG n B (cnI (bkM (B b)) b t o) := ⟨b, t, o, hb, ht, by omega, rfl⟩
    split
    · intro x hx
      rcases List.mem_append.mp hx with e | e
      · exact h x e
      · rw [List.mem_singleton] at e; rw [e]; exact hc
    · intro x hx
      rcases List.mem_or_eq_of_mem_set hx with e | e
      · exact h x e
      · rw [e]; exact hc
theorem cnG_V {S : ks_S} {n : Nat} {B : Nat → Bk} (hB : ∀ i, i < n → bkK S (B i)) (hn : n ≤ 60) (hfit : ∀ b t, b < n → t < mg (bkM (B b)) 80 → fit_b (mg (bkM (B b))) (bkM (B b)).length (txP (bkM (B b)) t).2.2.2.1 (txP (bkM (B b)) t).2.2.1 = true) {c : Nat} (h : cnG n B c) : cnV B c ≤ 2100000000000000 := by
  obtain ⟨b, t, o, h1, h2, h3, h4⟩ := h
  have r := cnI_R (hB b h1) h1 hn h2 h3
  obtain ⟨g1, f2, g3, g4, q1, q2, q3, q4, q5⟩ := hB b h1
  have b9 := blk_b q4
  have e1 := tx_out (bk_tx5 q4 h2) o h3
  have e2 := tx_bd (bk_tx5 q4 h2)
  have d := @cnI_d (bkM (B b)) b t o (by omega) (by omega) (by omega) (by omega)
  have f := (of_decide_eq_true (hfit b t h1 h2)).1 o h3
  rw [h4]
  unfold cnV
  rw [r.2, d.2.2.2.2]
  exact f
theorem all_getD {L : List Nat} {p : Nat → Prop} (h : ∀ x ∈ L, p x) : ∀ i, i < L.length → p (L.getD i 0) := fun i hi => h _ (getD_mem hi)
abbrev LCn : List Nat := [41, 50, 51, 20, 21, 22, 23, 24, 25, 26, 36, 27, 37, 38, 14, 16, 18, 19, 8, 9, 10, 11, 28, 39, 40, 29, 30, 31, 32, 33, 34, 35]
def setC (b : Bk) (c : Option (Nat × List Nat)) : Bk := (b.1, b.2.1, b.2.2.1, b.2.2.2.1, b.2.2.2.2.1, b.2.2.2.2.2.1, c)
theorem mcZ.up {S S1 : ks_S} {L : List Nat} (h : mcZ S) (hu : ks_up S S1 L) (hn : ∀ x ∈ L, x ∈ [20, 21, 22, 23, 24, 25, 26] ∨ 40 < x) : mcZ S1 := by
  obtain ⟨h1, ⟨xs, ys, u, h2⟩, ⟨dn, h3⟩, vw, ji, vc, j1, j2, j3, j4, j5, j6, i1, i2, i3, i4, h4⟩ := h
  have n : ∀ y, y ∉ ([20, 21, 22, 23, 24, 25, 26] : List Nat) → y ≤ 40 → y ∉ L := fun y a b hy => by
    rcases hn y hy with h | h
    · exact a h
    · omega
  refine ⟨h1.up hu (fun x hx => ?_), ⟨xs, ys, u, h2.up hu (fun x hx => ?_)⟩, ⟨dn, hu.at h3 (n _ (by decide) (by decide))⟩, vw, ji, vc, j1, j2, j3, j4, j5, j6, i1, i2, i3, i4, hu.at h4 (n _ (by decide) (by decide))⟩
  · rcases hn x hx with h | h
    · left; simp only [List.mem_cons, List.not_mem_nil, or_false] at h ⊢; omega
    · right; exact h
  · rcases hn x hx with h | h
    · simp only [List.mem_cons, List.not_mem_nil, or_false] at h; omega
    · omega
/-- all that connecting needs -/
def cnE (S : ks_S) (n best : Nat) (B : Nat → Bk) (L : List Nat) : Prop := (∃ tk, chX S n best (nI L.length) tk B) ∧ coS S L ∧ mcZ S ∧ tvR S ∧ ∃ f, S.2.2 51 = some (kN 40 f)
set_option maxRecDepth 100000 in
set_option maxHeartbeats 800000 in
theorem l_cnUnl {l : Launch} {G : ks_G} {d : Nat} {S : ks_S} {n best b t h : Nat} {B : Nat → Bk} {L : List Nat} {tk : Int64} {g9 ff : Nat → Nat} {fi left pd : Nat} (hma : mathOK) (hK : ks_stOK S) (hX : chX S n best (nI L.length) tk B) (hC : coS S L) (hG : ∀ x ∈ L, cnG n B x) (hZ : mcZ S) (hb : b < n) (ht : t < mg (bkM (B b)) 80) (hV : tv_ok S (bkN (B b) + 1) g9 (bkM (B b)).length (bsP (bkM (B b)) t) (txP (bkM (B b)) t).1 (txP (bkM (B b)) t).2.1 (txP (bkM (B b)) t).2.2.1 (txP (bkM (B b)) t).2.2.2.1 (txP (bkM (B b)) t).2.2.2.2) (h51 : S.2.2 51 = some (kN 40 ff)) (hff : ∀ i, i < (txP (bkM (B b)) t).1 → fiP B (bkM (B b)) t L i ≠ 0 ∧ ff i = fiP B (bkM (B b)) t L i - 1) (hg9 : kO g9) (eg9 : ∀ j, j < (bkM (B b)).length → g9 j = mg (bkM (B b)) j) (hy9 : S.2.2 (bkN (B b) + 1) = some (kB 1600 g9)) {P : Option Value → ks_S → Prop} (hno : ∀ S2 : ks_S, ks_up S S2 LRn → mcZ S2 → (∃ i, i < (txP (bkM (B b)) t).1 ∧ ukM B (bkM (B b)) t i (L.getD (fiP B (bkM (B b)) t L i - 1) 0) = false) → P (some (.int (nI 14))) S2) (hyes : ∀ S2 : ks_S, ks_up S S2 LRn → mcZ S2 → (¬ ∃ i, i < (txP (bkM (B b)) t).1 ∧ ukM B (bkM (B b)) t i (L.getD (fiP B (bkM (B b)) t L i - 1) 0) = false) → ks_X l G mX2_connect (d + 8) 198 [(0, .ref 41), (1, .int (nI b)), (2, .ref (bkN (B b))), (3, .long (lN fi)), (5, .long (lN left)), (7, .int (nI t)), (8, .long (lN pd))] [] S2 P) : ∀ (u i : Nat) (S1 : ks_S), i + u = (txP (bkM (B b)) t).1 → ks_up S S1 LRn → mcZ S1 → (∀ k, k < i → ukM B (bkM (B b)) t k (L.getD (fiP B (bkM (B b)) t L k - 1) 0) = true) → ks_X l G mX2_connect (d + 8) 116 [(0, .ref 41), (1, .int (nI b)), (2, .ref (bkN (B b))), (3, .long (lN fi)), (5, .long (lN left)), (7, .int (nI t)), (8, .long (lN pd)), (11, .int (nI i))] [] S1 P := by
  have hn60 := hX.2.2.2
  obtain ⟨g1b, f2b, g3b, g4b, ob, leb, egb, blb, stb, idb, hsb, cob⟩ := hX.2.2.1 b hb
  have b56 := ob.2.2.2.2.2.2.2.2.2
  have tx6 := bk_tx5 blb ht
  have k40 := (tx_bd tx6).1
  have hy9u : ∀ S1 : ks_S, ks_up S S1 LRn → S1.2.2 (bkN (B b) + 1) = some (kB 1600 g9) := fun S1 hu => hu.at hy9 (by intro hx; have : bkN (B b) + 1 < 56 := (by decide : ∀ x ∈ LRn, x < 56) _ hx; omega)
  obtain ⟨kn, hkn⟩ : ∃ k, (txP (bkM (B b)) t).1 = k := ⟨_, rfl⟩
  intro u
  induction u with
  | zero =>
    intro i S1 hiu hu Z1 hal
    rw [hkn] at hiu
    have X1 := hX.up hu (by decide)
    obtain ⟨hO, ⟨bf, h42, hbf⟩, hB, -⟩ := id X1
    have V1 := hV.up hu (by decide)
    have V1o := V1.1
    rw [hkn] at V1o
    have v51 := hu.at h51 (by decide)
    obtain ⟨f, h50, hl58, hf5⟩ := hC.up hu (by decide)
    obtain ⟨q1, -⟩ : bkX S1 (bkN (B b)) _ _ _ _ _ _ _ g1b f2b g3b g4b ∧ True := ⟨ob.up hu (by intro x hx; have : x < 56 := (by decide : ∀ x ∈ LRn, x < 56) x hx; omega), trivial⟩
    obtain ⟨-, -, -, vw, ji, vc, j1, j2, j3, j4, j5, j6, i1, i2, i3, i4, hmo⟩ := id Z1
    refine ks_iload dX2_connect_116 rfl rfl ?_
    refine ks_aload_n dX2_connect_118 rfl rfl ?_
    refine ks_getf (T := TX2) (kf := 7) kx_741 rfl in_X2 cl_X2 (by decide) hO rfl dX2_connect_119 rfl ?_
    refine ks_getf (T := TX10) (kf := 1) kx_558 rfl in_X10 cl_X10 (by decide) V1o rfl dX2_connect_122 rfl ?_
    refine ks_icmp_geN (tgt := 198) (by omega) (by omega) dX2_connect_125 (by decide) rfl (fun h1 => ?_) (fun h1 => ?_)
    · refine ks_sub [(0, _), (1, _), (2, _), (3, _), (5, _), (7, _), (8, _)] rfl ?_
      exact ks_sub [(0, _), (1, _), (2, _), (3, _), (5, _), (7, _), (8, _)] rfl (hyes S1 hu Z1 (fun ⟨k, h2, h3⟩ => by rw [hal k (by omega)] at h3; cases h3))
    · omega
  | succ u ih =>
    intro i S1 hiu hu Z1 hal
    rw [hkn] at hiu
    have X1 := hX.up hu (by decide)
    obtain ⟨hO, ⟨bf, h42, hbf⟩, hB, -⟩ := id X1
    have V1 := hV.up hu (by decide)
    have V1o := V1.1
    rw [hkn] at V1o
    have v51 := hu.at h51 (by decide)
    obtain ⟨f, h50, hl58, hf5⟩ := hC.up hu (by decide)
    obtain ⟨q1, -⟩ : bkX S1 (bkN (B b)) _ _ _ _ _ _ _ g1b f2b g3b g4b ∧ True := ⟨ob.up hu (by intro x hx; have : x < 56 := (by decide : ∀ x ∈ LRn, x < 56) x hx; omega), trivial⟩
    obtain ⟨-, -, -, vw, ji, vc, j1, j2, j3, j4, j5, j6, i1, i2, i3, i4, hmo⟩ := id Z1
    refine ks_iload dX2_connect_116 rfl rfl ?_
    refine ks_aload_n dX2_connect_118 rfl rfl ?_
    refine ks_getf (T := TX2) (kf := 7) kx_741 rfl in_X2 cl_X2 (by decide) hO rfl dX2_connect_119 rfl ?_
    refine ks_getf (T := TX10) (kf := 1) kx_558 rfl in_X10 cl_X10 (by decide) V1o rfl dX2_connect_122 rfl ?_
    refine ks_icmp_geN (tgt := 198) (by omega) (by omega) dX2_connect_125 (by decide) rfl (fun h1 => ?_) (fun h1 => ?_)
    · omega
    · have hfi := hff i (by omega)
      have pb : fiP B (bkM (B b)) t L i ≤ L.length := plL_b
      obtain ⟨c, hc⟩ : ∃ c, L.getD (fiP B (bkM (B b)) t L i - 1) 0 = c := ⟨_, rfl⟩
      have cg : cnG n B c := by rw [← hc]; exact hG _ (getD_mem (by omega))
      have cs := cnG_sc hB hn60 cg
      obtain ⟨⟨c1, c2, c3, c4⟩, c5⟩ := cs
      have hfc : f (ff i) = c := by rw [hfi.2, hf5 _ (by omega), hc]
      have ffl : ff i < 580 := by omega
      obtain ⟨g1x, f2x, g3x, g4x, ox, lex, egx, blx, stx, idx, hsx, cox⟩ := hB (c / 2 ^ 23) (by omega)
      have x56 := ox.2.2.2.2.2.2.2.2.2
      have s1 : scA (mg (bkM (B (c / 2 ^ 23)))) c = scA g1x c := by unfold scA; rw [egx _ (by omega)]
      have s2 : scZ (mg (bkM (B (c / 2 ^ 23)))) c = scZ g1x c := by unfold scZ; rw [egx _ (by omega), ks_num_congr 2 (c % 2048 + 9) (c % 2048 + 9) (fun j hj => (egx _ (by omega)).symm)]
      have els : lkS B c = bytL g1x (scA g1x c) (scZ g1x c) := by
        unfold lkS
        rw [s1, s2]
        rw [s1, s2] at c5
        exact bytL_congr (fun j hj => (egx _ (by omega)).symm)
      rw [s1, s2] at c5
      refine ks_aload_n dX2_connect_128 rfl rfl ?_
      refine ks_getf (T := TX2) (kf := 10) kx_744 rfl in_X2 cl_X2 (by decide) hO rfl dX2_connect_129 rfl ?_
      refine ks_aload_n dX2_connect_132 rfl rfl ?_
      refine ks_getf (T := TX2) (kf := 11) kx_745 rfl in_X2 cl_X2 (by decide) hO rfl dX2_connect_133 rfl ?_
      refine ks_iload dX2_connect_136 rfl rfl ?_
      refine ks_ialdN (i := i) v51 rfl (by omega) (by decide) dX2_connect_138 rfl ?_
      refine ks_ialdN (i := ff i) h50 rfl (by omega) (by decide) dX2_connect_139 rfl ?_
      rw [hfc]
      refine ks_istore dX2_connect_140 (by decide) rfl ?_
      refine ks_sub [(12, _), (0, _), (1, _), (2, _), (3, _), (5, _), (7, _), (8, _), (11, _)] rfl ?_
      refine ks_aload_n dX2_connect_142 rfl rfl ?_
      refine ks_getf (T := TX2) (kf := 0) kx_729 rfl in_X2 cl_X2 (by decide) hO rfl dX2_connect_143 rfl ?_
      refine ks_iload dX2_connect_146 rfl rfl ?_
      refine ks_callS (n := 1) (M' := mX2_blockOf) (c_ch_blockOf (d := d + 7) c1) kx_1035 kx_1036 kx_26 kx_1037 (by decide +kernel) rfl (by decide) (Nat.le_of_ble_eq_true rfl) rfl dX2_connect_148 rfl (fun z1 T1 y1 => ?_)
      obtain ⟨rfl, hT1⟩ := y1
      obtain rfl := hT1.symm
      refine ks_aaldN (i := c / 2 ^ 23) (b := (bkN (B (c / 2 ^ 23)))) (by decide) h42 rfl (by omega) (by decide) (hbf (c / 2 ^ 23) (by omega)) dX2_connect_151 rfl ?_
      refine ks_getf (T := TX0) (kf := 0) kx_936 rfl in_X0 cl_X0 (by decide) ox.1 rfl dX2_connect_152 rfl ?_
      refine ks_astore dX2_connect_155 (by decide) rfl ?_
      refine ks_sub [(13, _), (0, _), (1, _), (2, _), (3, _), (5, _), (7, _), (8, _), (11, _), (12, _)] rfl ?_
      refine ks_aload_n dX2_connect_157 rfl rfl ?_
      refine ks_getf (T := TX2) (kf := 6) kx_740 rfl in_X2 cl_X2 (by decide) hO rfl dX2_connect_158 rfl ?_
      refine ks_aload_n dX2_connect_161 rfl rfl ?_
      refine ks_getf (T := TX2) (kf := 7) kx_741 rfl in_X2 cl_X2 (by decide) hO rfl dX2_connect_162 rfl ?_
      refine ks_iload dX2_connect_165 rfl rfl ?_
      refine ks_aload dX2_connect_167 rfl rfl ?_
      refine ks_aload dX2_connect_169 rfl rfl ?_
      refine ks_iload dX2_connect_171 rfl rfl ?_
      refine ks_callS (n := 2) (M' := mX2_scriptAt) (c_ch_scriptAt (d := d + 6) c1 ox.2.1 ox.2.2.2.2.2.1 (by decide) (by omega)) kx_1541 kx_1542 kx_26 kx_1543 (by decide +kernel) rfl (by decide) (Nat.le_of_ble_eq_true rfl) rfl dX2_connect_173 rfl (fun z2 T2 y2 => ?_)
      obtain ⟨rfl, hT2⟩ := y2
      obtain rfl := hT2.symm
      refine ks_aload dX2_connect_176 rfl rfl ?_
      refine ks_iload dX2_connect_178 rfl rfl ?_
      refine ks_callS (n := 2) (M' := mX2_scriptSize) (c_ch_scriptSize (d := d + 6) c1 ox.2.1 ox.2.2.2.2.2.1 (by decide) (by omega)) kx_1544 kx_1545 kx_26 kx_1546 (by decide +kernel) rfl (by decide) (Nat.le_of_ble_eq_true rfl) rfl dX2_connect_180 rfl (fun z3 T3 y3 => ?_)
      obtain ⟨rfl, hT3⟩ := y3
      obtain rfl := hT3.symm
      refine ks_callV (n := 5) (M' := mX7_unlocks) (c_mc_unlocks (d := d) (inp := i) hma Z1 V1 (hy9u S1 hu) hg9 leb (by decide) leb (by omega) (by omega) (hu.st hK (by unfold ks_B; decide)) ox.2.1 ox.2.2.2.2.2.1 (by decide) (by omega) (by omega) (by omega)) hmo cl_X7 rfl kx_1547 kx_1548 kx_1549 kx_24 kx_1550 (by decide +kernel) rfl (by decide) (Nat.le_of_ble_eq_true rfl) rfl dX2_connect_183 rfl (fun z4 T4 y4 => ?_)
      obtain ⟨rfl, u4, Z4⟩ := y4
      have euk : ulS (fun code k s => ecG k s (sgH g9 (bkM (B b)).length (bsP (bkM (B b)) t) (txP (bkM (B b)) t).1 (txP (bkM (B b)) t).2.1 (txP (bkM (B b)) t).2.2.1 (txP (bkM (B b)) t).2.2.2.1 (txP (bkM (B b)) t).2.2.2.2 i (s.getD (s.length - 1) 0) code)) (lkB g9 (bkM (B b)).length (txP (bkM (B b)) t).2.1 (txP (bkM (B b)) t).2.2.2.2 i) (bytL g9 (iS g9 (bkM (B b)).length (txP (bkM (B b)) t).2.1 i) (iZ g9 (bkM (B b)).length (txP (bkM (B b)) t).2.1 i)) (bytL g1x (scA g1x c) (scZ g1x c)) = ukM B (bkM (B b)) t i c := by
        unfold ukM
        rw [els, ← scI_c eg9 tx6 (by omega : i < (txP (bkM (B b)) t).1), lkM, ← lkB_c eg9 tx6 (by omega : i < (txP (bkM (B b)) t).1)]
        have e9 : gdM (bkM (B b)) t i = fun code k s => ecG k s (sgH g9 (bkM (B b)).length (bsP (bkM (B b)) t) (txP (bkM (B b)) t).1 (txP (bkM (B b)) t).2.1 (txP (bkM (B b)) t).2.2.1 (txP (bkM (B b)) t).2.2.2.1 (txP (bkM (B b)) t).2.2.2.2 i (s.getD (s.length - 1) 0) code) := by
          funext code k s
          unfold gdM
          rw [← sgH_c eg9 tx6 (by omega : i < (txP (bkM (B b)) t).1)]
        rw [e9]
        rfl
      rw [euk]
      refine ks_if_neZ (tgt := 192) dX2_connect_186 (by decide) rfl (fun h2 => ?_) (fun h2 => ?_)
      · refine ks_sub [(0, _), (1, _), (2, _), (3, _), (5, _), (7, _), (8, _), (11, _)] rfl ?_
        refine ks_incN (c := 1) (e := i + 1) dX2_connect_192 rfl (by decide) rfl (by decide) rfl ?_
        refine ks_sub [(11, _), (0, _), (1, _), (2, _), (3, _), (5, _), (7, _), (8, _)] rfl ?_
        refine ks_goto (tgt := 116) dX2_connect_195 (by decide) ?_
        exact ks_sub [(0, _), (1, _), (2, _), (3, _), (5, _), (7, _), (8, _), (11, _)] rfl (ih (i + 1) T4 (by rw [hkn]; omega) (hu.trans u4) Z4 (fun k hk => by
          by_cases e : k = i
          · rw [e, hc]; exact h2
          · exact hal k (by omega)))
      · refine ks_bipush (x := nI 14) dX2_connect_189 (by decide) rfl ?_
        refine ks_iret rfl dX2_connect_191 ?_
        exact hno T4 (hu.trans u4) Z4 ⟨i, by omega, by rw [hc]; exact h2⟩
