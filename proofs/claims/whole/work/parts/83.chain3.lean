/-! CHAIN: questions -/
/-- parents have lower numbers -/
def chW (n : Nat) (B : Nat → Bk) : Prop := bkP (B 0) = 0 ∧ ∀ i, 0 < i → i < n → 1 ≤ bkP (B i) ∧ bkP (B i) ≤ i
theorem kO_rt : ∀ (q n : Nat) {f : Nat → Nat}, kO f → kO (rt_ q n f)
  | 0, n, f, h => h
  | q + 1, n, f, h => by
    unfold rt_
    split
    · exact h
    · exact kO_rt q _ (fun j => kO_twice _ _ _)
theorem kO_root {g : Nat → Nat} (hg : kO g) (c : Nat) : kO (root_ g c) := by
  unfold root_
  split
  · exact fun _ => (by decide : 0 < 256)
  · exact kO_rt _ _ hg
def stL (B : Nat → Bk) (x : Nat) : Nat → Nat → Nat
  | 0, b => b
  | c + 1, b => if x < b then stL B x c (bkP (B b) - 1) else b
theorem nI_D {k : Nat} (h : 0 < k) : nI k - 1 = nI (k - 1) := by
  rw [show k = (k - 1) + 1 by omega]
  exact nI_pred _
theorem ks_loc {l : Launch} {G : ks_G} {M : ks_M} {d pc : Nat} {lv lv2 : List (Nat × Value)} {st : List Value} {S : ks_S} {P : Option Value → ks_S → Prop} (h : lv = lv2) (k : ks_X l G M d pc lv2 st S P) : ks_X l G M d pc lv st S P := h ▸ k
set_option maxRecDepth 100000 in
set_option maxHeartbeats 800000 in
theorem c_ch_hasSameIds {l : Launch} {G : ks_G} {d : Nat} {S : ks_S} {b c : Nat} {len par hei : Int32} {wk : Int64} {bad : Bool} {cr : Value} {g1 f2 g3 g4 : Nat → Nat} (hX : bkX S b len (nI c) par hei wk bad cr g1 f2 g3 g4) (hc : c ≤ 12) : ks_P l G yX2_hasSameIds mX2_hasSameIds (d + 1) [.ref b] S (fun z S' => ∃ t, z = some (.int (ks_bo t)) ∧ S' = S ∧ (t = true ↔ ∃ p q, p < c ∧ q < p ∧ sm32 g3 (32 * p) g3 (32 * q) = true)) := by
  have inner : ∀ (k p q : Nat), q + k = p → p < c → (∀ e, e < q → sm32 g3 (32 * p) g3 (32 * e) = false) → ((∀ e, e < p → sm32 g3 (32 * p) g3 (32 * e) = false) → ks_X l G mX2_hasSameIds (d + 1) 47 [(0, .ref b), (1, .int (nI p))] [] S (fun z S' => ∃ t, z = some (.int (ks_bo t)) ∧ S' = S ∧ (t = true ↔ ∃ p q, p < c ∧ q < p ∧ sm32 g3 (32 * p) g3 (32 * q) = true))) → ks_X l G mX2_hasSameIds (d + 1) 12 [(0, .ref b), (1, .int (nI p)), (2, .int (nI q))] [] S (fun z S' => ∃ t, z = some (.int (ks_bo t)) ∧ S' = S ∧ (t = true ↔ ∃ p q, p < c ∧ q < p ∧ sm32 g3 (32 * p) g3 (32 * q) = true)) := by
    intro k
    induction k with
    | zero =>
      intro p q hq hp hno hk
      refine ks_iload_n dX2_hasSameIds_12 rfl rfl ?_
      refine ks_iload_n dX2_hasSameIds_13 rfl rfl ?_
      refine ks_icmp_geN (tgt := 47) (by omega) (by omega) dX2_hasSameIds_14 (by decide) rfl (fun h1 => ?_) (fun h1 => ?_)
      · refine ks_sub [(0, _), (1, _)] rfl ?_
        exact hk (fun e he => hno e (by omega))
      · omega
    | succ k ih =>
      intro p q hq hp hno hk
      refine ks_iload_n dX2_hasSameIds_12 rfl rfl ?_
      refine ks_iload_n dX2_hasSameIds_13 rfl rfl ?_
      refine ks_icmp_geN (tgt := 47) (by omega) (by omega) dX2_hasSameIds_14 (by decide) rfl (fun h1 => ?_) (fun h1 => ?_)
      · omega
      · refine ks_aload_n dX2_hasSameIds_17 rfl rfl ?_
        refine ks_getf (T := TX0) (kf := 2) kx_941 rfl in_X0 cl_X0 (by decide) hX.1 rfl dX2_hasSameIds_18 rfl ?_
        refine ks_bipush (x := nI 32) dX2_hasSameIds_21 (by decide) rfl ?_
        refine ks_iload_n dX2_hasSameIds_23 rfl rfl ?_
        refine ks_mulN dX2_hasSameIds_24 rfl ?_
        refine ks_aload_n dX2_hasSameIds_25 rfl rfl ?_
        refine ks_getf (T := TX0) (kf := 2) kx_941 rfl in_X0 cl_X0 (by decide) hX.1 rfl dX2_hasSameIds_26 rfl ?_
        refine ks_bipush (x := nI 32) dX2_hasSameIds_29 (by decide) rfl ?_
        refine ks_iload_n dX2_hasSameIds_31 rfl rfl ?_
        refine ks_mulN dX2_hasSameIds_32 rfl ?_
        refine ks_callS (n := 4) (M' := mX2_isSame) (c_ch_isSame (d := d) (a := 32 * p) (b := 32 * q) hX.2.2.2.1 hX.2.2.2.1 hX.2.2.2.2.2.2.1 hX.2.2.2.2.2.2.1 (by decide) (by decide) (by omega) (by omega)) kx_1041 kx_1042 kx_26 kx_1043 (by decide +kernel) rfl (by decide) (Nat.le_of_ble_eq_true rfl) rfl dX2_hasSameIds_33 rfl (fun z1 T1 y1 => ?_)
        obtain ⟨rfl, hT⟩ := y1
        obtain rfl := hT.symm
        refine ks_if_eqZ (tgt := 41) dX2_hasSameIds_36 (by decide) rfl (fun h2 => ?_) (fun h2 => ?_)
        · refine ks_incN (c := 1) (e := q + 1) dX2_hasSameIds_41 rfl (by decide) rfl (by decide) rfl ?_
          refine ks_sub [(2, _), (0, _), (1, _)] rfl ?_
          refine ks_goto (tgt := 12) dX2_hasSameIds_44 (by decide) ?_
          exact ks_sub [(0, _), (1, _), (2, _)] rfl (ih p (q + 1) (by omega) hp (fun e he => by
            by_cases c9 : e = q
            · rw [c9]; exact h2
            · exact hno e (by omega)) hk)
        · refine ks_iconst (x := nI 1) dX2_hasSameIds_39 (by decide) rfl ?_
          refine ks_zret rfl rfl dX2_hasSameIds_40 ?_
          exact ⟨true, rfl, rfl, fun _ => ⟨p, q, hp, by omega, h2⟩, fun _ => rfl⟩
  have outer : ∀ (k p : Nat), c ≤ p + k → (∀ x e, x < p → e < x → x < c → sm32 g3 (32 * x) g3 (32 * e) = false) → p < 20 → ks_X l G mX2_hasSameIds (d + 1) 2 [(0, .ref b), (1, .int (nI p))] [] S (fun z S' => ∃ t, z = some (.int (ks_bo t)) ∧ S' = S ∧ (t = true ↔ ∃ p q, p < c ∧ q < p ∧ sm32 g3 (32 * p) g3 (32 * q) = true)) := by
    intro k
    induction k with
    | zero =>
      intro p hp hno h20
      refine ks_iload_n dX2_hasSameIds_2 rfl rfl ?_
      refine ks_aload_n dX2_hasSameIds_3 rfl rfl ?_
      refine ks_getf (T := TX0) (kf := 5) kx_949 rfl in_X0 cl_X0 (by decide) hX.1 rfl dX2_hasSameIds_4 rfl ?_
      refine ks_icmp_geN (tgt := 53) (by omega) (by omega) dX2_hasSameIds_7 (by decide) rfl (fun h1 => ?_) (fun h1 => ?_)
      · refine ks_iconst (x := nI 0) dX2_hasSameIds_53 (by decide) rfl ?_
        refine ks_zret rfl rfl dX2_hasSameIds_54 ?_
        refine ⟨false, rfl, rfl, (fun h => by cases h), fun h => ?_⟩
        obtain ⟨x, e, h2, h3, h4⟩ := h
        rw [hno x e (by omega) h3 h2] at h4
        cases h4
      · omega
    | succ k ih =>
      intro p hp hno h20
      refine ks_iload_n dX2_hasSameIds_2 rfl rfl ?_
      refine ks_aload_n dX2_hasSameIds_3 rfl rfl ?_
      refine ks_getf (T := TX0) (kf := 5) kx_949 rfl in_X0 cl_X0 (by decide) hX.1 rfl dX2_hasSameIds_4 rfl ?_
      refine ks_icmp_geN (tgt := 53) (by omega) (by omega) dX2_hasSameIds_7 (by decide) rfl (fun h1 => ?_) (fun h1 => ?_)
      · refine ks_iconst (x := nI 0) dX2_hasSameIds_53 (by decide) rfl ?_
        refine ks_zret rfl rfl dX2_hasSameIds_54 ?_
        refine ⟨false, rfl, rfl, (fun h => by cases h), fun h => ?_⟩
        obtain ⟨x, e, h2, h3, h4⟩ := h
        rw [hno x e (by omega) h3 h2] at h4
        cases h4
      · refine ks_iconst (x := nI 0) dX2_hasSameIds_10 (by decide) rfl ?_
        refine ks_istore_n dX2_hasSameIds_11 (by decide) rfl ?_
        refine ks_sub [(2, _), (0, _), (1, _)] rfl ?_
        refine ks_sub [(0, _), (1, _), (2, _)] rfl (inner p p 0 (by omega) (by omega) (fun e he => absurd he (Nat.not_lt_zero e)) (fun hall => ?_))
        refine ks_incN (c := 1) (e := p + 1) dX2_hasSameIds_47 rfl (by decide) rfl (by decide) rfl ?_
        refine ks_sub [(1, _), (0, _)] rfl ?_
        refine ks_goto (tgt := 2) dX2_hasSameIds_50 (by decide) ?_
        exact ks_sub [(0, _), (1, _)] rfl (ih (p + 1) (by omega) (fun x e h2 h3 h4 => by
          by_cases c9 : x = p
          · rw [c9]; exact hall e (by omega)
          · exact hno x e (by omega) h3 h4) (by omega))
  refine ks_of (by decide) rfl rfl (Nat.le_of_ble_eq_true rfl) ?_
  show ks_X l G mX2_hasSameIds (d + 1) 0 [(0, .ref b)] [] S _
  refine ks_iconst (x := nI 1) dX2_hasSameIds_0 (by decide) rfl ?_
  refine ks_istore_n dX2_hasSameIds_1 (by decide) rfl ?_
  refine ks_sub [(1, _), (0, _)] rfl ?_
  exact ks_sub [(0, _), (1, _)] rfl (outer c 1 (by omega) (fun x e h1 h2 h3 => by omega) (by decide))
set_option maxRecDepth 100000 in
set_option maxHeartbeats 800000 in
theorem c_ch_hasItsRoot {l : Launch} {G : ks_G} {d : Nat} {S : ks_S} {b c : Nat} {len par hei : Int32} {wk : Int64} {bad : Bool} {cr : Value} {g1 f2 g3 g4 gr : Nat → Nat} {n best : Nat} {cc : Int32} {tk : Int64} (hO : S.2.2 41 = some (.inr (5, [.ref 42, .ref 43, .ref 44, .int (nI n), .int (nI best), .ref 7, .ref 27, .ref 20, .ref 48, .ref 49, .ref 50, .ref 51, .int cc, .long tk]))) (hX : bkX S b len (nI c) par hei wk bad cr g1 f2 g3 g4) (hc : c ≤ 12) (hh : hsO S) (hK : ks_stOK S) (h49 : S.2.2 49 = some (kB 32 gr)) (hgr : kO gr) : ks_P l G yX2_hasItsRoot mX2_hasItsRoot (d + 6) [.ref 41, .ref b] S (fun z S' => z = some (.int (ks_bo (sm32 (root_ g3 c) 0 g1 36))) ∧ ks_up S S' [9, 8, 10, 11, 12, 13, 49] ∧ hsO S' ∧ ∃ gr, kO gr ∧ S'.2.2 49 = some (kB 32 gr)) := by
  have b56 := hX.2.2.2.2.2.2.2.2.2
  refine ks_of (by decide) rfl rfl (Nat.le_of_ble_eq_true rfl) ?_
  show ks_X l G mX2_hasItsRoot (d + 6) 0 [(0, .ref 41), (1, .ref b)] [] S _
  refine ks_aload_n dX2_hasItsRoot_0 rfl rfl ?_
  refine ks_getf (T := TX2) (kf := 5) kx_739 rfl in_X2 cl_X2 (by decide) hO rfl dX2_hasItsRoot_1 rfl ?_
  refine ks_aload_n dX2_hasItsRoot_4 rfl rfl ?_
  refine ks_getf (T := TX0) (kf := 2) kx_941 rfl in_X0 cl_X0 (by decide) hX.1 rfl dX2_hasItsRoot_5 rfl ?_
  refine ks_aload_n dX2_hasItsRoot_8 rfl rfl ?_
  refine ks_getf (T := TX0) (kf := 5) kx_949 rfl in_X0 cl_X0 (by decide) hX.1 rfl dX2_hasItsRoot_9 rfl ?_
  refine ks_aload_n dX2_hasItsRoot_12 rfl rfl ?_
  refine ks_getf (T := TX2) (kf := 9) kx_743 rfl in_X2 cl_X2 (by decide) hO rfl dX2_hasItsRoot_13 rfl ?_
  refine ks_callV (n := 3) (M' := mX6_root) (c_root (d := d) (c := c) hh hs_neO hK hX.2.2.2.1 hX.2.2.2.2.2.2.1 hc (by omega) (by decide) h49 hgr (by decide) (by decide) (by omega) (by decide) (by decide) (by decide)) hh.1 cl_X6 rfl kx_1453 kx_905 kx_906 kx_3 kx_907 (by decide +kernel) rfl (by decide) (Nat.le_of_ble_eq_true rfl) rfl dX2_hasItsRoot_16 rfl (fun z1 T1 y1 => ?_)
  obtain ⟨rfl, u1, H1, e1⟩ := y1
  have O1 := u1.at hO (by decide)
  have X1 : bkX T1 b len (nI c) par hei wk bad cr g1 f2 g3 g4 := hX.up u1 (by intro x hx; simp only [List.mem_cons, List.not_mem_nil, or_false] at hx; omega)
  have kr : kO (ks_pt (root_ g3 c) gr 0 32) := kO_pt (kO_root hX.2.2.2.2.2.2.1 c) hgr 0 32
  refine ks_aload_n dX2_hasItsRoot_19 rfl rfl ?_
  refine ks_getf (T := TX2) (kf := 9) kx_743 rfl in_X2 cl_X2 (by decide) O1 rfl dX2_hasItsRoot_20 rfl ?_
  refine ks_iconst (x := nI 0) dX2_hasItsRoot_23 (by decide) rfl ?_
  refine ks_aload_n dX2_hasItsRoot_24 rfl rfl ?_
  refine ks_getf (T := TX0) (kf := 0) kx_936 rfl in_X0 cl_X0 (by decide) X1.1 rfl dX2_hasItsRoot_25 rfl ?_
  refine ks_bipush (x := nI 36) dX2_hasItsRoot_28 (by decide) rfl ?_
  refine ks_callS (n := 4) (M' := mX2_isSame) (c_ch_isSame (d := d + 5) (a := 0) (b := 36) e1 X1.2.1 kr X1.2.2.2.2.2.1 (by decide) (by decide) (by decide) (by decide)) kx_1041 kx_1042 kx_26 kx_1043 (by decide +kernel) rfl (by decide) (Nat.le_of_ble_eq_true rfl) rfl dX2_hasItsRoot_30 rfl (fun z2 T2 y2 => ?_)
  obtain ⟨rfl, hT⟩ := y2
  obtain rfl := hT.symm
  refine ks_zret rfl (ks_bo_z _) dX2_hasItsRoot_33 ?_
  refine ⟨?_, u1, H1, _, kr, e1⟩
  rw [sm32_c (g2 := root_ g3 c) (h2 := g1) (a2 := 0) (b2 := 36) (fun j hj => by rw [ks_pt_in _ _ 0 32 hj, Nat.zero_add]) (fun j hj => rfl)]
set_option maxRecDepth 100000 in
set_option maxHeartbeats 800000 in
theorem c_ch_standing {l : Launch} {G : ks_G} {d : Nat} {S : ks_S} {n best : Nat} {cc : Int32} {tk : Int64} {B : Nat → Bk} (hX : chX S n best cc tk B) {x : Nat} (hW : chW n B) (hx : x < n) (hbe : best < n) : ks_P l G yX2_standing mX2_standing d [.ref 41, .int (nI x)] S (fun z S' => z = some (.int (nI (if bkD (B x) = true then 2 else if stL B x n best = x then 1 else 0))) ∧ S' = S) := by
  obtain ⟨hO, ⟨bf, h42, hbf⟩, hB, hn60⟩ := id hX
  obtain ⟨g1x, f2x, g3x, g4x, ox, lex, egx, blx, stx, idx, hsx, cox⟩ := hB x (by omega)
  refine ks_of (by decide) rfl rfl (Nat.le_of_ble_eq_true rfl) ?_
  show ks_X l G mX2_standing d 0 [(0, .ref 41), (1, .int (nI x))] [] S _
  refine ks_aload_n dX2_standing_0 rfl rfl ?_
  refine ks_getf (T := TX2) (kf := 0) kx_729 rfl in_X2 cl_X2 (by decide) hO rfl dX2_standing_1 rfl ?_
  refine ks_iload_n dX2_standing_4 rfl rfl ?_
  refine ks_aaldN (i := x) (b := (bkN (B x))) (by decide) h42 rfl (by omega) (by decide) (hbf x (by omega)) dX2_standing_5 rfl ?_
  refine ks_getf (T := TX0) (kf := 9) kx_958 rfl in_X0 cl_X0 (by decide) ox.1 rfl dX2_standing_6 rfl ?_
  refine ks_if_eqZ (tgt := 14) dX2_standing_9 (by decide) rfl (fun h1 => ?_) (fun h1 => ?_)
  · rw [if_neg (by rw [h1]; decide)]
    have loop : ∀ c s b, s + c = n → b < n → stL B x c b = stL B x n best → ks_X l G mX2_standing d 21 [(0, .ref 41), (1, .int (nI x)), (2, .int (nI b)), (3, .int (nI s))] [] S (fun z S' => z = some (.int (nI (if stL B x n best = x then 1 else 0))) ∧ S' = S) := by
      intro c
      induction c with
      | zero =>
        intro s b hs hb he
        refine ks_iload_n dX2_standing_21 rfl rfl ?_
        refine ks_aload_n dX2_standing_22 rfl rfl ?_
        refine ks_getf (T := TX2) (kf := 3) kx_735 rfl in_X2 cl_X2 (by decide) hO rfl dX2_standing_23 rfl ?_
        refine ks_icmp_geN (tgt := 50) (by omega) (by omega) dX2_standing_26 (by decide) rfl (fun h2 => ?_) (fun h2 => ?_)
        · refine ks_iload_n dX2_standing_50 rfl rfl ?_
          refine ks_iload_n dX2_standing_51 rfl rfl ?_
          refine ks_icmp_neN (tgt := 59) (by omega) (by omega) dX2_standing_52 (by decide) rfl (fun h4 => ?_) (fun h4 => ?_)
          · refine ks_iconst (x := nI 0) dX2_standing_59 (by decide) rfl ?_
            refine ks_iret rfl dX2_standing_60 ?_
            refine ⟨?_, rfl⟩
            rw [← he]
            rw [show stL B x 0 b = b from rfl]
            rw [if_neg h4]
          · refine ks_iconst (x := nI 1) dX2_standing_55 (by decide) rfl ?_
            refine ks_goto (tgt := 60) dX2_standing_56 (by decide) ?_
            refine ks_iret rfl dX2_standing_60 ?_
            refine ⟨?_, rfl⟩
            rw [← he]
            rw [show stL B x 0 b = b from rfl]
            rw [if_pos h4]
        · omega
      | succ c ih =>
        intro s b hs hb he
        refine ks_iload_n dX2_standing_21 rfl rfl ?_
        refine ks_aload_n dX2_standing_22 rfl rfl ?_
        refine ks_getf (T := TX2) (kf := 3) kx_735 rfl in_X2 cl_X2 (by decide) hO rfl dX2_standing_23 rfl ?_
        refine ks_icmp_geN (tgt := 50) (by omega) (by omega) dX2_standing_26 (by decide) rfl (fun h2 => ?_) (fun h2 => ?_)
        · omega
        · refine ks_iload_n dX2_standing_29 rfl rfl ?_
          refine ks_iload_n dX2_standing_30 rfl rfl ?_
          refine ks_icmp_leN (tgt := 50) (by omega) (by omega) dX2_standing_31 (by decide) rfl (fun h3 => ?_) (fun h3 => ?_)
          · refine ks_iload_n dX2_standing_50 rfl rfl ?_
            refine ks_iload_n dX2_standing_51 rfl rfl ?_
            refine ks_icmp_neN (tgt := 59) (by omega) (by omega) dX2_standing_52 (by decide) rfl (fun h4 => ?_) (fun h4 => ?_)
            · refine ks_iconst (x := nI 0) dX2_standing_59 (by decide) rfl ?_
              refine ks_iret rfl dX2_standing_60 ?_
              refine ⟨?_, rfl⟩
              rw [← he]
              rw [stL, if_neg (show ¬ x < b by omega)]
              rw [if_neg h4]
            · refine ks_iconst (x := nI 1) dX2_standing_55 (by decide) rfl ?_
              refine ks_goto (tgt := 60) dX2_standing_56 (by decide) ?_
              refine ks_iret rfl dX2_standing_60 ?_
              refine ⟨?_, rfl⟩
              rw [← he]
              rw [stL, if_neg (show ¬ x < b by omega)]
              rw [if_pos h4]
          · have hw := hW.2 b (by omega) hb
            rw [stL, if_pos (by omega)] at he
            obtain ⟨g1b, f2b, g3b, g4b, ob, leb, egb, blb, stb, idb, hsb, cob⟩ := hB b (by omega)
            refine ks_aload_n dX2_standing_34 rfl rfl ?_
            refine ks_getf (T := TX2) (kf := 0) kx_729 rfl in_X2 cl_X2 (by decide) hO rfl dX2_standing_35 rfl ?_
            refine ks_iload_n dX2_standing_38 rfl rfl ?_
            refine ks_aaldN (i := b) (b := (bkN (B b))) (by decide) h42 rfl (by omega) (by decide) (hbf b (by omega)) dX2_standing_39 rfl ?_
            refine ks_getf (T := TX0) (kf := 6) kx_952 rfl in_X0 cl_X0 (by decide) ob.1 rfl dX2_standing_40 rfl ?_
            rw [nI_D (by omega : 0 < bkP (B b))]
            refine ks_istore_n dX2_standing_43 (by decide) rfl ?_
            refine ks_sub [(2, _), (0, _), (1, _), (3, _)] rfl ?_
            refine ks_incN (c := 1) (e := s + 1) dX2_standing_44 rfl (by decide) rfl (by decide) rfl ?_
            refine ks_sub [(3, _), (0, _), (1, _), (2, _)] rfl ?_
            refine ks_goto (tgt := 21) dX2_standing_47 (by decide) ?_
            exact ks_sub [(0, _), (1, _), (2, _), (3, _)] rfl (ih (s + 1) (bkP (B b) - 1) (by omega) (by omega) he)
    refine ks_aload_n dX2_standing_14 rfl rfl ?_
    refine ks_getf (T := TX2) (kf := 4) kx_738 rfl in_X2 cl_X2 (by decide) hO rfl dX2_standing_15 rfl ?_
    refine ks_istore_n dX2_standing_18 (by decide) rfl ?_
    refine ks_sub [(2, _), (0, _), (1, _)] rfl ?_
    refine ks_iconst (x := nI 0) dX2_standing_19 (by decide) rfl ?_
    refine ks_istore_n dX2_standing_20 (by decide) rfl ?_
    refine ks_sub [(3, _), (0, _), (1, _), (2, _)] rfl ?_
    exact ks_sub [(0, _), (1, _), (2, _), (3, _)] rfl (loop n 0 best (by omega) hbe rfl)
  · refine ks_iconst (x := nI 2) dX2_standing_12 (by decide) rfl ?_
    refine ks_iret rfl dX2_standing_13 ?_
    rw [if_pos h1]
    exact ⟨rfl, rfl⟩
def cnS (B : Nat → Bk) (L : List Nat) : Nat → Nat := sum_ (fun i => cnV B (L.getD i 0))
theorem lN_addm (a b : Nat) : lN a + lN b = lN (a + b) := lN_add a b
set_option maxRecDepth 100000 in
set_option maxHeartbeats 800000 in
theorem c_ch_allValues {l : Launch} {G : ks_G} {d : Nat} {S : ks_S} {n best : Nat} {cc : Int32} {tk : Int64} {B : Nat → Bk} (hX : chX S n best cc tk B) {r : Nat} {L : List Nat} (hbe : best < n) (hc : bkC (B best) = some (r, L)) (hL : ∀ i, i < L.length → cnR n B (L.getD i 0)) : ks_P l G yX2_allValues mX2_allValues (d + 2) [.ref 41] S (fun z S' => z = some (.long (lN (cnS B L L.length))) ∧ S' = S) := by
  obtain ⟨hO, ⟨bf, h42, hbf⟩, hB, hn60⟩ := id hX
  obtain ⟨g1x, f2x, g3x, g4x, ox, lex, egx, blx, stx, idx, hsx, cox⟩ := hB best (by omega)
  obtain ⟨hr, hrB, hr56, hr4⟩ := cox _ hc
  rw [hc] at ox
  have hr : S.2.2 r = some (kN L.length (fun j => L.getD j 0)) := hr
  have hrB : r < ks_B := hrB
  have hr4 : L.length ≤ 400 := hr4
  have loop : ∀ c i, i + c = L.length → ks_X l G mX2_allValues (d + 2) 18 [(0, .ref 41), (1, .ref r), (2, .long (lN (cnS B L i))), (4, .int (nI i))] [] S (fun z S' => z = some (.long (lN (cnS B L L.length))) ∧ S' = S) := by
    intro c
    induction c with
    | zero =>
      intro i hi
      refine ks_iload dX2_allValues_18 rfl rfl ?_
      refine ks_aload_n dX2_allValues_20 rfl rfl ?_
      refine ks_alen (by decide) hr rfl hrB dX2_allValues_21 rfl ?_
      refine ks_icmp_geN (tgt := 42) (by omega) (by omega) dX2_allValues_22 (by decide) rfl (fun h1 => ?_) (fun h1 => ?_)
      · refine ks_lload_n dX2_allValues_42 rfl rfl ?_
        refine ks_lret rfl dX2_allValues_43 ?_
        obtain rfl : i = L.length := by omega
        exact ⟨rfl, rfl⟩
      · omega
    | succ c ih =>
      intro i hi
      refine ks_iload dX2_allValues_18 rfl rfl ?_
      refine ks_aload_n dX2_allValues_20 rfl rfl ?_
      refine ks_alen (by decide) hr rfl hrB dX2_allValues_21 rfl ?_
      refine ks_icmp_geN (tgt := 42) (by omega) (by omega) dX2_allValues_22 (by decide) rfl (fun h1 => ?_) (fun h1 => ?_)
      · omega
      · refine ks_lload_n dX2_allValues_25 rfl rfl ?_
        refine ks_aload_n dX2_allValues_26 rfl rfl ?_
        refine ks_aload_n dX2_allValues_27 rfl rfl ?_
        refine ks_iload dX2_allValues_28 rfl rfl ?_
        refine ks_ialdN (i := i) hr rfl (by omega) (by omega) dX2_allValues_30 rfl ?_
        refine ks_callV (n := 1) (M' := mX2_value) (c_ch_value (d := d) (c := L.getD i 0) hX (hL i (by omega))) hO cl_X2 rfl kx_1110 kx_1112 kxp_16 kx_26 kx_1113 (by decide +kernel) rfl (by decide) (Nat.le_of_ble_eq_true rfl) rfl dX2_allValues_31 rfl (fun z1 T1 y1 => ?_)
        obtain ⟨rfl, hT⟩ := y1
        obtain rfl := hT.symm
        refine ks_laddN dX2_allValues_34 rfl ?_
        refine ks_lstore_n dX2_allValues_35 (by decide) rfl ?_
        refine ks_sub [(2, _), (0, _), (1, _), (4, _)] rfl ?_
        refine ks_incN (c := 1) (e := i + 1) dX2_allValues_36 rfl (by decide) rfl (by decide) rfl ?_
        refine ks_sub [(4, _), (0, _), (1, _), (2, _)] rfl ?_
        refine ks_goto (tgt := 18) dX2_allValues_39 (by decide) ?_
        exact ks_sub [(0, _), (1, _), (2, _), (4, _)] rfl (ih (i + 1) (by omega))
  refine ks_of (by decide) rfl rfl (Nat.le_of_ble_eq_true rfl) ?_
  show ks_X l G mX2_allValues (d + 2) 0 [(0, .ref 41)] [] S _
  refine ks_aload_n dX2_allValues_0 rfl rfl ?_
  refine ks_getf (T := TX2) (kf := 0) kx_729 rfl in_X2 cl_X2 (by decide) hO rfl dX2_allValues_1 rfl ?_
  refine ks_aload_n dX2_allValues_4 rfl rfl ?_
  refine ks_getf (T := TX2) (kf := 4) kx_738 rfl in_X2 cl_X2 (by decide) hO rfl dX2_allValues_5 rfl ?_
  refine ks_aaldN (i := best) (b := (bkN (B best))) (by decide) h42 rfl (by omega) (by decide) (hbf best (by omega)) dX2_allValues_8 rfl ?_
  refine ks_getf (T := TX0) (kf := 10) kx_959 rfl in_X0 cl_X0 (by decide) ox.1 rfl dX2_allValues_9 rfl ?_
  refine ks_astore_n dX2_allValues_12 (by decide) rfl ?_
  refine ks_sub [(1, _), (0, _)] rfl ?_
  refine ks_lconst (x := lN 0) dX2_allValues_13 (by decide) rfl ?_
  refine ks_lstore_n dX2_allValues_14 (by decide) rfl ?_
  refine ks_sub [(2, _), (0, _), (1, _)] rfl ?_
  refine ks_iconst (x := nI 0) dX2_allValues_15 (by decide) rfl ?_
  refine ks_istore dX2_allValues_16 (by decide) rfl ?_
  refine ks_sub [(4, _), (0, _), (1, _), (2, _)] rfl ?_
  exact ks_sub [(0, _), (1, _), (2, _), (4, _)] rfl (loop L.length 0 (by omega))
set_option maxRecDepth 100000 in
set_option maxHeartbeats 800000 in
theorem c_ch_valueOf {l : Launch} {G : ks_G} {d : Nat} {S : ks_S} {n best : Nat} {cc : Int32} {tk : Int64} {B : Nat → Bk} (hX : chX S n best cc tk B) {r y Ny at_ : Nat} {L : List Nat} {ix : Int32} {gy : Nat → Nat} (hbe : best < n) (hc : bkC (B best) = some (r, L)) (hL : ∀ i, i < L.length → cnR n B (L.getD i 0)) (hy : S.2.2 y = some (kB Ny gy)) (hgy : kO gy) (hNy : Ny < 2 ^ 20) (hat : at_ + 32 ≤ Ny) : ks_P l G yX2_valueOf mX2_valueOf (d + 2) [.ref 41, .ref y, .int (nI at_), .int ix] S (fun z S' => z = some (.long (if plD (fun i => cnIs B ix (fun j => gy (at_ + j)) (L.getD i 0)) L.length 0 = 0 then -1 else lN (cnV B (L.getD (plD (fun i => cnIs B ix (fun j => gy (at_ + j)) (L.getD i 0)) L.length 0 - 1) 0)))) ∧ S' = S) := by
  obtain ⟨hO, ⟨bf, h42, hbf⟩, hB, hn60⟩ := id hX
  obtain ⟨g1x, f2x, g3x, g4x, ox, lex, egx, blx, stx, idx, hsx, cox⟩ := hB best (by omega)
  obtain ⟨hr, hrB, hr56, hr4⟩ := cox _ hc
  rw [hc] at ox
  have hr : S.2.2 r = some (kN L.length (fun j => L.getD j 0)) := hr
  have hrB : r < ks_B := hrB
  have hr4 : L.length ≤ 400 := hr4
  refine ks_of (by decide) rfl rfl (Nat.le_of_ble_eq_true rfl) ?_
  show ks_X l G mX2_valueOf (d + 2) 0 [(0, .ref 41), (1, .ref y), (2, .int (nI at_)), (3, .int ix)] [] S _
  refine ks_aload_n dX2_valueOf_0 rfl rfl ?_
  refine ks_getf (T := TX2) (kf := 0) kx_729 rfl in_X2 cl_X2 (by decide) hO rfl dX2_valueOf_1 rfl ?_
  refine ks_aload_n dX2_valueOf_4 rfl rfl ?_
  refine ks_getf (T := TX2) (kf := 4) kx_738 rfl in_X2 cl_X2 (by decide) hO rfl dX2_valueOf_5 rfl ?_
  refine ks_aaldN (i := best) (b := (bkN (B best))) (by decide) h42 rfl (by omega) (by decide) (hbf best (by omega)) dX2_valueOf_8 rfl ?_
  refine ks_getf (T := TX0) (kf := 10) kx_959 rfl in_X0 cl_X0 (by decide) ox.1 rfl dX2_valueOf_9 rfl ?_
  refine ks_astore dX2_valueOf_12 (by decide) rfl ?_
  refine ks_sub [(4, _), (0, _), (1, _), (2, _), (3, _)] rfl ?_
  refine ks_aload_n dX2_valueOf_14 rfl rfl ?_
  refine ks_aload dX2_valueOf_15 rfl rfl ?_
  refine ks_aload dX2_valueOf_17 rfl rfl ?_
  refine ks_alen (by decide) hr rfl hrB dX2_valueOf_19 rfl ?_
  refine ks_aload_n dX2_valueOf_20 rfl rfl ?_
  refine ks_iload_n dX2_valueOf_21 rfl rfl ?_
  refine ks_iload_n dX2_valueOf_22 rfl rfl ?_
  refine ks_callV (n := 5) (M' := mX2_placeOf) (c_ch_placeOf (d := d) hX hr (Nat.le_refl _) (by omega) hL hy hgy hNy hat) hO cl_X2 rfl kx_1028 kx_1030 kxp_15 kx_26 kx_1031 (by decide +kernel) rfl (by decide) (Nat.le_of_ble_eq_true rfl) rfl dX2_valueOf_23 rfl (fun z1 T1 y1 => ?_)
  obtain ⟨rfl, hT⟩ := y1
  obtain rfl := hT.symm
  have pb := @plD_ok (fun i => cnIs B ix (fun j => gy (at_ + j)) (L.getD i 0)) L.length 0
  generalize plD (fun i => cnIs B ix (fun j => gy (at_ + j)) (L.getD i 0)) L.length 0 = p at *
  have pb2 : p ≤ L.length := by
    cases p with
    | zero => omega
    | succ q => have := (pb rfl).2.2; omega
  refine ks_istore dX2_valueOf_26 (by decide) rfl ?_
  refine ks_sub [(5, _), (0, _), (1, _), (2, _), (3, _), (4, _)] rfl ?_
  refine ks_iload dX2_valueOf_28 rfl rfl ?_
  refine ks_if_geD (tgt := 39) (by omega) dX2_valueOf_30 (by decide) rfl (fun h1 => ?_) (fun h1 => ?_)
  · rw [nI_D (by omega : 0 < p)]
    refine ks_aload_n dX2_valueOf_39 rfl rfl ?_
    refine ks_aload dX2_valueOf_40 rfl rfl ?_
    refine ks_iload dX2_valueOf_42 rfl rfl ?_
    refine ks_ialdN (i := p - 1) hr rfl (by omega) (by omega) dX2_valueOf_44 rfl ?_
    refine ks_callV (n := 1) (M' := mX2_value) (c_ch_value (d := d) (c := L.getD (p - 1) 0) hX (hL _ (by omega))) hO cl_X2 rfl kx_1110 kx_1112 kxp_16 kx_26 kx_1113 (by decide +kernel) rfl (by decide) (Nat.le_of_ble_eq_true rfl) rfl dX2_valueOf_45 rfl (fun z2 T2 y2 => ?_)
    obtain ⟨rfl, hT⟩ := y2
    obtain rfl := hT.symm
    refine ks_lret rfl dX2_valueOf_48 ?_
    rw [if_neg h1]
    exact ⟨rfl, rfl⟩
  · refine ks_ldc2 dX2_valueOf_33 kx_1764 rfl ?_
    refine ks_goto (tgt := 48) dX2_valueOf_36 (by decide) ?_
    refine ks_lret rfl dX2_valueOf_48 ?_
    rw [if_pos h1]
    exact ⟨rfl, rfl⟩
