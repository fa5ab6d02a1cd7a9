/-! CHAIN: coins are taken away -/
def mkF (ff : Nat → Nat) (k i : Nat) : Bool := (List.range k).any (fun q => decide (ff q = i))
theorem mkF_iff {ff : Nat → Nat} {k i : Nat} : mkF ff k i = true ↔ ∃ q, q < k ∧ ff q = i := by
  unfold mkF
  rw [List.any_eq_true]
  exact ⟨fun ⟨q, h1, h2⟩ => ⟨q, List.mem_range.mp h1, of_decide_eq_true h2⟩, fun ⟨q, h1, h2⟩ => ⟨q, List.mem_range.mpr h1, decide_eq_true h2⟩⟩
theorem mkF_s (ff : Nat → Nat) (k i : Nat) : mkF ff (k + 1) i = (mkF ff k i || decide (ff k = i)) := by
  unfold mkF
  rw [List.range_succ, List.any_append]
  simp
/-- what is left -/
def tkN (mk : Nat → Bool) (L : List Nat) : Nat → List Nat
  | 0 => []
  | i + 1 => if mk i = true then tkN mk L i else tkN mk L i ++ [L.getD i 0]
theorem tkN_len (mk : Nat → Bool) (L : List Nat) : ∀ i, (tkN mk L i).length ≤ i
  | 0 => Nat.le_refl 0
  | i + 1 => by
    have := tkN_len mk L i
    unfold tkN
    split
    · omega
    · simp; omega
theorem tkN_mem {mk : Nat → Bool} {L : List Nat} : ∀ {i x : Nat}, x ∈ tkN mk L i → ∃ j, j < i ∧ x = L.getD j 0
  | 0, x, h => absurd h List.not_mem_nil
  | i + 1, x, h => by
    unfold tkN at h
    split at h
    · obtain ⟨j, h1, h2⟩ := tkN_mem h
      exact ⟨j, by omega, h2⟩
    · rcases List.mem_append.mp h with h | h
      · obtain ⟨j, h1, h2⟩ := tkN_mem h
        exact ⟨j, by omega, h2⟩
      · rw [List.mem_singleton] at h
        exact ⟨i, by omega, h⟩
theorem getD_mem {L : List Nat} {i : Nat} (h : i < L.length) : L.getD i 0 ∈ L := by
  rw [show L.getD i 0 = L[i] by simp [List.getD, h]]
  exact List.getElem_mem h
set_option maxRecDepth 100000 in
set_option maxHeartbeats 800000 in
theorem c_ch_takeCoins {l : Launch} {G : ks_G} {d : Nat} {S : ks_S} {n best : Nat} {tk : Int64} {B : Nat → Bk} {L : List Nat} {ff : Nat → Nat} {y9 L9 b9 k9 p9 m9 u9 e9 : Nat} {g9 : Nat → Nat} (hX : chX S n best (nI L.length) tk B) (hL : coS S L) (hl4 : L.length ≤ 400) (hf : ∀ i, i < L.length → L.getD i 0 < 2 ^ 31) (hV : tv_ok S y9 g9 L9 b9 k9 p9 m9 u9 e9) (h51 : S.2.2 51 = some (kN 40 ff)) (hff : ∀ i, i < k9 → ff i < L.length) : ks_P l G yX2_takeCoins mX2_takeCoins d [.ref 41] S (fun z S' => z = none ∧ ks_up S S' [41, 50] ∧ chX S' n best (nI (tkN (mkF ff k9) L L.length).length) tk B ∧ coS S' (tkN (mkF ff k9) L L.length)) := by
  have hk40 := (tx_bd hV.2.1).1
  obtain ⟨f, h50, hl58, hf5⟩ := id hL
  obtain ⟨mk, hmk⟩ : ∃ m, mkF ff k9 = m := ⟨_, rfl⟩
  rw [hmk]
  have hO := hX.1
  have lo2 : ∀ (u i : Nat) (S1 : ks_S) (g : Nat → Nat), i + u = L.length → ks_up S S1 [41, 50] → chX S1 n best (nI L.length) tk B → S1.2.2 50 = some (kN 580 g) → (∀ j, i ≤ j → j < L.length → g j = if mk j = true then 4294967295 else L.getD j 0) → (∀ j, j < (tkN mk L i).length → g j = (tkN mk L i).getD j 0) → ks_X l G mX2_takeCoins d 35 [(0, .ref 41), (1, .int (nI (tkN mk L i).length)), (2, .int (nI i))] [] S1 (fun z S' => z = none ∧ ks_up S S' [41, 50] ∧ chX S' n best (nI (tkN mk L L.length).length) tk B ∧ coS S' (tkN mk L L.length)) := by
    intro u
    induction u with
    | zero =>
      intro i S1 g hiu hu X1 v50 hg hK
      have hO1 := X1.1
      have tl := tkN_len mk L i
      refine ks_iload_n dX2_takeCoins_35 rfl rfl ?_
      refine ks_aload_n dX2_takeCoins_36 rfl rfl ?_
      refine ks_getf (T := TX2) (kf := 12) kx_746 rfl in_X2 cl_X2 (by decide) hO1 rfl dX2_takeCoins_37 rfl ?_
      refine ks_icmp_geN (tgt := 73) (by omega) (by omega) dX2_takeCoins_40 (by decide) rfl (fun h1 => ?_) (fun h1 => ?_)
      · refine ks_aload_n dX2_takeCoins_73 rfl rfl ?_
        refine ks_iload_n dX2_takeCoins_74 rfl rfl ?_
        refine ks_putf (T := TX2) (kf := 12) kx_746 rfl in_X2 tyX2_ok nmX2 cl_X2 (by decide) hO1 (Nat.le_of_ble_eq_true rfl) rfl rfl rfl rfl dX2_takeCoins_75 rfl ?_
        refine ks_ret rfl dX2_takeCoins_78 ?_
        obtain rfl : i = L.length := by omega
        exact ⟨rfl, hu.trans (ks_up_set _ _ (by decide)), X1.obj best _ tk, g, (ks_set_ne _ _ (by decide)).trans v50, by omega, hK⟩
      · omega
    | succ u ih =>
      intro i S1 g hiu hu X1 v50 hg hK
      have hO1 := X1.1
      have tl := tkN_len mk L i
      refine ks_iload_n dX2_takeCoins_35 rfl rfl ?_
      refine ks_aload_n dX2_takeCoins_36 rfl rfl ?_
      refine ks_getf (T := TX2) (kf := 12) kx_746 rfl in_X2 cl_X2 (by decide) hO1 rfl dX2_takeCoins_37 rfl ?_
      refine ks_icmp_geN (tgt := 73) (by omega) (by omega) dX2_takeCoins_40 (by decide) rfl (fun h1 => ?_) (fun h1 => ?_)
      · omega
      · refine ks_aload_n dX2_takeCoins_43 rfl rfl ?_
        refine ks_getf (T := TX2) (kf := 10) kx_744 rfl in_X2 cl_X2 (by decide) hO1 rfl dX2_takeCoins_44 rfl ?_
        refine ks_iload_n dX2_takeCoins_47 rfl rfl ?_
        refine ks_ialdN (i := i) v50 rfl (by omega) (by decide) dX2_takeCoins_48 rfl ?_
        have gi := hg i (Nat.le_refl _) (by omega)
        cases hm : mk i with
        | true =>
          rw [hm, if_pos rfl] at gi
          rw [gi]
          refine ks_ti (y := -1) (by decide) ?_
          have et : tkN mk L (i + 1) = tkN mk L i := by rw [tkN, if_pos hm]
          refine ks_if_lt (tgt := 67) dX2_takeCoins_49 (by decide) rfl (fun h2 => ?_) (fun h2 => ?_)
          · refine ks_incN (c := 1) (e := i + 1) dX2_takeCoins_67 rfl (by decide) rfl (by decide) rfl ?_
            refine ks_sub [(2, _), (0, _), (1, _)] rfl ?_
            refine ks_goto (tgt := 35) dX2_takeCoins_70 (by decide) ?_
            have h9 := ih (i + 1) S1 g (by omega) hu X1 v50 (fun j h3 h4 => hg j (by omega) h4) (by rw [et]; exact hK)
            rw [et] at h9
            exact ks_sub [(0, _), (1, _), (2, _)] rfl h9
          · exact absurd h2 (by decide)
        | false =>
          rw [hm, if_neg (by decide)] at gi
          have hfi := hf i (by omega)
          rw [gi]
          have et : tkN mk L (i + 1) = tkN mk L i ++ [L.getD i 0] := by rw [tkN, if_neg (by rw [hm]; decide)]
          refine ks_if_ltN (tgt := 67) (by omega) dX2_takeCoins_49 (by decide) rfl ?_
          refine ks_aload_n dX2_takeCoins_52 rfl rfl ?_
          refine ks_getf (T := TX2) (kf := 10) kx_744 rfl in_X2 cl_X2 (by decide) hO1 rfl dX2_takeCoins_53 rfl ?_
          refine ks_iload_n dX2_takeCoins_56 rfl rfl ?_
          refine ks_aload_n dX2_takeCoins_57 rfl rfl ?_
          refine ks_getf (T := TX2) (kf := 10) kx_744 rfl in_X2 cl_X2 (by decide) hO1 rfl dX2_takeCoins_58 rfl ?_
          refine ks_iload_n dX2_takeCoins_61 rfl rfl ?_
          refine ks_ialdN (i := i) v50 rfl (by omega) (by decide) dX2_takeCoins_62 rfl ?_
          rw [gi]
          refine ks_iastNN (i := (tkN mk L i).length) (v := L.getD i 0) (by decide) v50 (by omega) (by decide) dX2_takeCoins_63 rfl ?_
          refine ks_incN (c := 1) (e := (tkN mk L i).length + 1) dX2_takeCoins_64 rfl (by decide) rfl (by decide) rfl ?_
          refine ks_sub [(1, _), (0, _), (2, _)] rfl ?_
          refine ks_incN (c := 1) (e := i + 1) dX2_takeCoins_67 rfl (by decide) rfl (by decide) rfl ?_
          refine ks_sub [(2, _), (0, _), (1, _)] rfl ?_
          refine ks_goto (tgt := 35) dX2_takeCoins_70 (by decide) ?_
          have h9 := ih (i + 1) (ks_set S1 50 (kN 580 (va_up g (tkN mk L i).length (L.getD i 0)))) (va_up g (tkN mk L i).length (L.getD i 0)) (by omega) (hu.trans (ks_up_set _ _ (by decide))) (X1.row _ (by decide)) (ks_set_same _ _ _) (fun j h3 h4 => by rw [va_up_ne _ _ (by omega)]; exact hg j (by omega) h4) (fun j hj => by
            rw [et] at hj ⊢
            rw [getD_app]
            by_cases e : j = (tkN mk L i).length
            · rw [e, va_up_self, if_neg (by omega), Nat.sub_self]; rfl
            · have hj2 : j < (tkN mk L i).length := by simp at hj; omega
              rw [va_up_ne _ _ e, if_pos hj2]; exact hK j hj2)
          rw [et, show (tkN mk L i ++ [L.getD i 0]).length = (tkN mk L i).length + 1 by simp] at h9
          exact ks_sub [(0, _), (1, _), (2, _)] rfl h9
  have lo1 : ∀ (u i : Nat) (S1 : ks_S) (g : Nat → Nat), i + u = k9 → ks_up S S1 [41, 50] → chX S1 n best (nI L.length) tk B → S1.2.2 50 = some (kN 580 g) → (∀ j, j < L.length → g j = if mkF ff i j = true then 4294967295 else L.getD j 0) → ks_X l G mX2_takeCoins d 2 [(0, .ref 41), (1, .int (nI i))] [] S1 (fun z S' => z = none ∧ ks_up S S' [41, 50] ∧ chX S' n best (nI (tkN mk L L.length).length) tk B ∧ coS S' (tkN mk L L.length)) := by
    intro u
    induction u with
    | zero =>
      intro i S1 g hiu hu X1 v50 hg
      have hO1 := X1.1
      have V1 := hu.at hV.1 (by decide)
      have v51 := hu.at h51 (by decide)
      refine ks_iload_n dX2_takeCoins_2 rfl rfl ?_
      refine ks_aload_n dX2_takeCoins_3 rfl rfl ?_
      refine ks_getf (T := TX2) (kf := 7) kx_741 rfl in_X2 cl_X2 (by decide) hO1 rfl dX2_takeCoins_4 rfl ?_
      refine ks_getf (T := TX10) (kf := 1) kx_558 rfl in_X10 cl_X10 (by decide) V1 rfl dX2_takeCoins_7 rfl ?_
      refine ks_icmp_geN (tgt := 31) (by omega) (by omega) dX2_takeCoins_10 (by decide) rfl (fun h1 => ?_) (fun h1 => ?_)
      · obtain rfl : i = k9 := by omega
        rw [hmk] at hg
        refine ks_iconst (x := nI 0) dX2_takeCoins_31 (by decide) rfl ?_
        refine ks_istore_n dX2_takeCoins_32 (by decide) rfl ?_
        refine ks_sub [(1, _), (0, _)] rfl ?_
        refine ks_iconst (x := nI 0) dX2_takeCoins_33 (by decide) rfl ?_
        refine ks_istore_n dX2_takeCoins_34 (by decide) rfl ?_
        refine ks_sub [(2, _), (0, _), (1, _)] rfl ?_
        exact ks_sub [(0, _), (1, .int (nI (tkN mk L 0).length)), (2, _)] rfl (lo2 L.length 0 S1 g (by omega) hu X1 v50 (fun j _ hj => hg j hj) (fun j hj => absurd hj (Nat.not_lt_zero j)))
      · omega
    | succ u ih =>
      intro i S1 g hiu hu X1 v50 hg
      have hO1 := X1.1
      have V1 := hu.at hV.1 (by decide)
      have v51 := hu.at h51 (by decide)
      refine ks_iload_n dX2_takeCoins_2 rfl rfl ?_
      refine ks_aload_n dX2_takeCoins_3 rfl rfl ?_
      refine ks_getf (T := TX2) (kf := 7) kx_741 rfl in_X2 cl_X2 (by decide) hO1 rfl dX2_takeCoins_4 rfl ?_
      refine ks_getf (T := TX10) (kf := 1) kx_558 rfl in_X10 cl_X10 (by decide) V1 rfl dX2_takeCoins_7 rfl ?_
      refine ks_icmp_geN (tgt := 31) (by omega) (by omega) dX2_takeCoins_10 (by decide) rfl (fun h1 => ?_) (fun h1 => ?_)
      · omega
      · have hfi := hff i (by omega)
        refine ks_aload_n dX2_takeCoins_13 rfl rfl ?_
        refine ks_getf (T := TX2) (kf := 10) kx_744 rfl in_X2 cl_X2 (by decide) hO1 rfl dX2_takeCoins_14 rfl ?_
        refine ks_aload_n dX2_takeCoins_17 rfl rfl ?_
        refine ks_getf (T := TX2) (kf := 11) kx_745 rfl in_X2 cl_X2 (by decide) hO1 rfl dX2_takeCoins_18 rfl ?_
        refine ks_iload_n dX2_takeCoins_21 rfl rfl ?_
        refine ks_ialdN (i := i) v51 rfl (by omega) (by decide) dX2_takeCoins_22 rfl ?_
        refine ks_iconst (x := (-1)) dX2_takeCoins_23 (by decide) rfl ?_
        refine ks_ti (y := nI 4294967295) (by decide) ?_
        refine ks_iastNN (i := ff i) (v := 4294967295) (by decide) v50 (by omega) (by decide) dX2_takeCoins_24 rfl ?_
        refine ks_incN (c := 1) (e := i + 1) dX2_takeCoins_25 rfl (by decide) rfl (by decide) rfl ?_
        refine ks_sub [(1, _), (0, _)] rfl ?_
        refine ks_goto (tgt := 2) dX2_takeCoins_28 (by decide) ?_
        refine ks_sub [(0, _), (1, _)] rfl (ih (i + 1) _ _ (by omega) (hu.trans (ks_up_set _ _ (by decide))) (X1.row _ (by decide)) (ks_set_same _ _ _) (fun j hj => ?_))
        rw [mkF_s]
        by_cases e : ff i = j
        · subst e; rw [va_up_self, decide_eq_true rfl, Bool.or_true, if_pos rfl]
        · rw [va_up_ne _ _ (Ne.symm e), decide_eq_false e, Bool.or_false]; exact hg j hj
  refine ks_of (by decide) rfl rfl (Nat.le_of_ble_eq_true rfl) ?_
  show ks_X l G mX2_takeCoins d 0 [(0, .ref 41)] [] S _
  refine ks_iconst (x := nI 0) dX2_takeCoins_0 (by decide) rfl ?_
  refine ks_istore_n dX2_takeCoins_1 (by decide) rfl ?_
  refine ks_sub [(1, _), (0, _)] rfl ?_
  exact ks_sub [(0, _), (1, _)] rfl (lo1 k9 0 S f (by omega) (ks_up.rf _ _) hX h50 (fun j hj => by rw [if_neg (by unfold mkF; simp)]; exact hf5 j hj))
