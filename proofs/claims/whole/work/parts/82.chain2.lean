/-! CHAIN: blocks and coins -/
/-- a block: name, bytes, parent + 1, height, work, whether it is bad, the coins behind it with their row's name -/
abbrev Bk : Type := Nat × List Nat × Nat × Nat × Nat × Bool × Option (Nat × List Nat)
abbrev bkN (b : Bk) : Nat := b.1
abbrev bkM (b : Bk) : List Nat := b.2.1
abbrev bkP (b : Bk) : Nat := b.2.2.1
abbrev bkH (b : Bk) : Nat := b.2.2.2.1
abbrev bkW (b : Bk) : Nat := b.2.2.2.2.1
abbrev bkD (b : Bk) : Bool := b.2.2.2.2.2.1
abbrev bkC (b : Bk) : Option (Nat × List Nat) := b.2.2.2.2.2.2
def bkCv (c : Option (Nat × List Nat)) : Value := match c with
  | none => .null
  | some q => .ref q.1
/-- where transaction t of a block begins -/
def bsP (M : List Nat) (t : Nat) : Nat := (bs_ (mg M) M.length t).getD 0
/-- the ID of transaction t -/
def idB (M : List Nat) (t : Nat) : Nat → Nat := twice_ (fun k => mg M (bsP M t + k)) (bsP M (t + 1) - bsP M t)
def hsB (M : List Nat) : Nat → Nat := twice_ (mg M) 80
def bkK (S : ks_S) (b : Bk) : Prop := ∃ g1 f2 g3 g4, bkX S (bkN b) (nI (bkM b).length) (nI (mg (bkM b) 80)) (nI (bkP b) - 1) (nI (bkH b)) (lN (bkW b)) (bkD b) (bkCv (bkC b)) g1 f2 g3 g4 ∧ (bkM b).length ≤ 1600 ∧ (∀ j, j < (bkM b).length → g1 j = mg (bkM b) j) ∧ blk_ (mg (bkM b)) (bkM b).length = true ∧ (∀ q, q ≤ mg (bkM b) 80 → bs_ (mg (bkM b)) (bkM b).length q = some (f2 q)) ∧ (∀ t, t < mg (bkM b) 80 → ∀ j, j < 32 → g3 (32 * t + j) = idB (bkM b) t j) ∧ (∀ j, j < 32 → g4 j = hsB (bkM b) j) ∧ (∀ c, bkC b = some c → S.2.2 c.1 = some (kN c.2.length (fun j => c.2.getD j 0)) ∧ c.1 < ks_B ∧ 56 ≤ c.1 ∧ c.2.length ≤ 400)
def chX (S : ks_S) (n best : Nat) (cc : Int32) (tk : Int64) (B : Nat → Bk) : Prop := S.2.2 41 = some (.inr (5, [.ref 42, .ref 43, .ref 44, .int (nI n), .int (nI best), .ref 7, .ref 27, .ref 20, .ref 48, .ref 49, .ref 50, .ref 51, .int cc, .long tk])) ∧ (∃ bf, S.2.2 42 = some (.inl (5, 61, .inr (.inr (.inr (.inr bf))))) ∧ ∀ i, i < n → bf i = some (bkN (B i))) ∧ (∀ i, i < n → bkK S (B i)) ∧ n ≤ 60
theorem blk_b {M : List Nat} (h : blk_ (mg M) M.length = true) : 80 < M.length ∧ mg M 80 ≤ 12 := by
  have := of_decide_eq_true h
  exact ⟨this.1, this.2.1⟩
/-- the first place that is right, and one more; 0 if there is none -/
def plD (ok : Nat → Bool) : Nat → Nat → Nat
  | 0, _ => 0
  | c + 1, i => if ok i then i + 1 else plD ok c (i + 1)
theorem plD_congr {f g : Nat → Bool} : ∀ {c i : Nat}, (∀ j, i ≤ j → j < i + c → f j = g j) → plD f c i = plD g c i
  | 0, i, _ => rfl
  | c + 1, i, h => by
    rw [plD, plD, h i (by omega) (by omega), plD_congr (c := c) (i := i + 1) (fun j h1 h2 => h j (by omega) (by omega))]
theorem plD_b {f : Nat → Bool} : ∀ {c i : Nat}, plD f c i ≤ i + c
  | 0, i => Nat.zero_le _
  | c + 1, i => by
    rw [plD]
    split
    · omega
    · have := @plD_b f c (i + 1); omega
theorem plD_ok {f : Nat → Bool} : ∀ {c i p : Nat}, plD f c i = p + 1 → f p = true ∧ i ≤ p ∧ p < i + c
  | 0, i, p, h => by cases h
  | c + 1, i, p, h => by
    rw [plD] at h
    split at h
    · next hf => obtain rfl : i = p := by omega
                 exact ⟨hf, by omega, by omega⟩
    · have := plD_ok (c := c) (i := i + 1) h; exact ⟨this.1, by omega, by omega⟩
/-- a coin may be read -/
def cnR (n : Nat) (B : Nat → Bk) (c : Nat) : Prop := c < 2 ^ 31 ∧ c / 2 ^ 23 < n ∧ c / 2 ^ 19 % 16 < mg (bkM (B (c / 2 ^ 23))) 80 ∧ c % 2048 + 11 ≤ (bkM (B (c / 2 ^ 23))).length
def cnV (B : Nat → Bk) (c : Nat) : Nat := ks_num (mg (bkM (B (c / 2 ^ 23)))) (c % 2048) 8
def cnIs (B : Nat → Bk) (ix : Int32) (id : Nat → Nat) (c : Nat) : Bool := decide (nI (c / 2 ^ 11 % 256) = ix) && sm32 (idB (bkM (B (c / 2 ^ 23))) (c / 2 ^ 19 % 16)) 0 id 0
set_option maxRecDepth 100000 in
set_option maxHeartbeats 800000 in
theorem c_ch_value {l : Launch} {G : ks_G} {d : Nat} {S : ks_S} {n best : Nat} {cc : Int32} {tk : Int64} {B : Nat → Bk} (hX : chX S n best cc tk B) {c : Nat} (hc : cnR n B c) : ks_P l G yX2_value mX2_value (d + 1) [.ref 41, .int (nI c)] S (fun z S' => z = some (.long (lN (cnV B c))) ∧ S' = S) := by
  obtain ⟨hO, ⟨bf, h42, hbf⟩, hB, hn60⟩ := id hX
  obtain ⟨hc1, hc2, hc3, hc4⟩ := hc
  obtain ⟨g1x, f2x, g3x, g4x, ox, lex, egx, blx, stx, idx, hsx, cox⟩ := hB (c / 2 ^ 23) (by omega)
  refine ks_of (by decide) rfl rfl (Nat.le_of_ble_eq_true rfl) ?_
  show ks_X l G mX2_value (d + 1) 0 [(0, .ref 41), (1, .int (nI c))] [] S _
  refine ks_aload_n dX2_value_0 rfl rfl ?_
  refine ks_getf (T := TX2) (kf := 0) kx_729 rfl in_X2 cl_X2 (by decide) hO rfl dX2_value_1 rfl ?_
  refine ks_iload_n dX2_value_4 rfl rfl ?_
  refine ks_callS (n := 1) (M' := mX2_blockOf) (c_ch_blockOf (d := d) hc1) kx_1035 kx_1036 kx_26 kx_1037 (by decide +kernel) rfl (by decide) (Nat.le_of_ble_eq_true rfl) rfl dX2_value_5 rfl (fun z1 T1 y1 => ?_)
  obtain ⟨rfl, hT⟩ := y1
  obtain rfl := hT.symm
  refine ks_aaldN (i := c / 2 ^ 23) (b := (bkN (B (c / 2 ^ 23)))) (by decide) h42 rfl (by omega) (by decide) (hbf (c / 2 ^ 23) (by omega)) dX2_value_8 rfl ?_
  refine ks_getf (T := TX0) (kf := 0) kx_936 rfl in_X0 cl_X0 (by decide) ox.1 rfl dX2_value_9 rfl ?_
  refine ks_iload_n dX2_value_12 rfl rfl ?_
  refine ks_sipush (x := nI 2047) dX2_value_13 (by decide) rfl ?_
  refine ks_andN (k := 11) (by omega) (by decide) dX2_value_16 rfl ?_
  rw [mod2047 c]
  refine ks_bipush (x := nI 8) dX2_value_17 (by decide) rfl ?_
  refine ks_callS (n := 3) (M' := mX1_number) (c_Buffer_number (d := d) (i := c % 2048) (sz := 8) ox.2.1 ox.2.2.2.2.2.1 (by omega) (by decide) (by decide)) kx_1114 kx_998 kx_2 kx_999 (by decide +kernel) rfl (by decide) (Nat.le_of_ble_eq_true rfl) rfl dX2_value_19 rfl (fun z2 T2 y2 => ?_)
  obtain ⟨rfl, hT⟩ := y2
  obtain rfl := hT.symm
  refine ks_lret rfl dX2_value_22 ?_
  refine ⟨?_, rfl⟩
  unfold cnV
  rw [ks_num_congr 8 (c % 2048) (c % 2048) (fun j hj => egx _ (by omega))]
set_option maxRecDepth 100000 in
set_option maxHeartbeats 800000 in
theorem c_ch_placeOf {l : Launch} {G : ks_G} {d : Nat} {S : ks_S} {n best : Nat} {cc : Int32} {tk : Int64} {B : Nat → Bk} (hX : chX S n best cc tk B) {r Nr k y Ny at_ : Nat} {ix : Int32} {f gy : Nat → Nat} (hr : S.2.2 r = some (kN Nr f)) (hk : k ≤ Nr) (hNr : Nr < 2 ^ 20) (hf : ∀ i, i < k → cnR n B (f i)) (hy : S.2.2 y = some (kB Ny gy)) (hgy : kO gy) (hNy : Ny < 2 ^ 20) (hat : at_ + 32 ≤ Ny) : ks_P l G yX2_placeOf mX2_placeOf (d + 1) [.ref 41, .ref r, .int (nI k), .ref y, .int (nI at_), .int ix] S (fun z S' => z = some (.int (nI (plD (fun i => cnIs B ix (fun j => gy (at_ + j)) (f i)) k 0) - 1)) ∧ S' = S) := by
  obtain ⟨hO, ⟨bf, h42, hbf⟩, hB, hn60⟩ := id hX
  obtain ⟨ok, hok⟩ : ∃ ok, ok = fun i => cnIs B ix (fun j => gy (at_ + j)) (f i) := ⟨_, rfl⟩
  rw [← hok]
  have loop : ∀ c i, i + c = k → plD ok c i = plD ok k 0 → ks_X l G mX2_placeOf (d + 1) 3 [(0, .ref 41), (1, .ref r), (2, .int (nI k)), (3, .ref y), (4, .int (nI at_)), (5, .int ix), (6, .int (nI i))] [] S (fun z S' => z = some (.int (nI (plD ok k 0) - 1)) ∧ S' = S) := by
    intro c
    induction c with
    | zero =>
      intro i hi hp
      refine ks_iload dX2_placeOf_3 rfl rfl ?_
      refine ks_iload_n dX2_placeOf_5 rfl rfl ?_
      refine ks_icmp_geN (tgt := 64) (by omega) (by omega) dX2_placeOf_6 (by decide) rfl (fun h1 => ?_) (fun h1 => ?_)
      · refine ks_iconst (x := (-1)) dX2_placeOf_64 (by decide) rfl ?_
        refine ks_iret rfl dX2_placeOf_65 ?_
        refine ⟨?_, rfl⟩
        rw [← hp]
        rfl
      · omega
    | succ c ih =>
      intro i hi hp
      refine ks_iload dX2_placeOf_3 rfl rfl ?_
      refine ks_iload_n dX2_placeOf_5 rfl rfl ?_
      refine ks_icmp_geN (tgt := 64) (by omega) (by omega) dX2_placeOf_6 (by decide) rfl (fun h1 => ?_) (fun h1 => ?_)
      · omega
      · have hfi := hf i (by omega)
        obtain ⟨hc1, hc2, hc3, hc4⟩ := hfi
        rw [plD] at hp
        have eok : ok i = (decide (nI (f i / 2 ^ 11 % 256) = ix) && sm32 (idB (bkM (B (f i / 2 ^ 23))) (f i / 2 ^ 19 % 16)) 0 (fun j => gy (at_ + j)) 0) := by rw [hok]; rfl
        obtain ⟨g1x, f2x, g3x, g4x, ox, lex, egx, blx, stx, idx, hsx, cox⟩ := hB (f i / 2 ^ 23) (by omega)
        have hb12 := blk_b blx
        refine ks_aload_n dX2_placeOf_9 rfl rfl ?_
        refine ks_iload dX2_placeOf_10 rfl rfl ?_
        refine ks_ialdN (i := i) hr rfl (by omega) (by omega) dX2_placeOf_12 rfl ?_
        refine ks_istore dX2_placeOf_13 (by decide) rfl ?_
        refine ks_sub [(7, _), (0, _), (1, _), (2, _), (3, _), (4, _), (5, _), (6, _)] rfl ?_
        refine ks_iload dX2_placeOf_15 rfl rfl ?_
        refine ks_callS (n := 1) (M' := mX2_outputOf) (c_ch_outputOf (d := d) hc1) kx_1032 kx_1033 kx_26 kx_1034 (by decide +kernel) rfl (by decide) (Nat.le_of_ble_eq_true rfl) rfl dX2_placeOf_17 rfl (fun z1 T1 y1 => ?_)
        obtain ⟨rfl, hT⟩ := y1
        obtain rfl := hT.symm
        refine ks_iload dX2_placeOf_20 rfl rfl ?_
        refine ks_icmp_ne (tgt := 58) dX2_placeOf_22 (by decide) rfl (fun h2 => ?_) (fun h2 => ?_)
        · refine ks_incN (c := 1) (e := i + 1) dX2_placeOf_58 rfl (by decide) rfl (by decide) rfl ?_
          refine ks_sub [(6, _), (0, _), (1, _), (2, _), (3, _), (4, _), (5, _), (7, _)] rfl ?_
          refine ks_goto (tgt := 3) dX2_placeOf_61 (by decide) ?_
          rw [if_neg (by rw [eok, decide_eq_false h2]; simp)] at hp
          exact ks_sub [(0, _), (1, _), (2, _), (3, _), (4, _), (5, _), (6, _)] rfl (ih (i + 1) (by omega) hp)
        · refine ks_aload_n dX2_placeOf_25 rfl rfl ?_
          refine ks_getf (T := TX2) (kf := 0) kx_729 rfl in_X2 cl_X2 (by decide) hO rfl dX2_placeOf_26 rfl ?_
          refine ks_iload dX2_placeOf_29 rfl rfl ?_
          refine ks_callS (n := 1) (M' := mX2_blockOf) (c_ch_blockOf (d := d) hc1) kx_1035 kx_1036 kx_26 kx_1037 (by decide +kernel) rfl (by decide) (Nat.le_of_ble_eq_true rfl) rfl dX2_placeOf_31 rfl (fun z2 T2 y2 => ?_)
          obtain ⟨rfl, hT⟩ := y2
          obtain rfl := hT.symm
          refine ks_aaldN (i := f i / 2 ^ 23) (b := (bkN (B (f i / 2 ^ 23)))) (by decide) h42 rfl (by omega) (by decide) (hbf (f i / 2 ^ 23) (by omega)) dX2_placeOf_34 rfl ?_
          refine ks_getf (T := TX0) (kf := 2) kx_941 rfl in_X0 cl_X0 (by decide) ox.1 rfl dX2_placeOf_35 rfl ?_
          refine ks_bipush (x := nI 32) dX2_placeOf_38 (by decide) rfl ?_
          refine ks_iload dX2_placeOf_40 rfl rfl ?_
          refine ks_callS (n := 1) (M' := mX2_transactionOf) (c_ch_transactionOf (d := d) hc1) kx_1038 kx_1039 kx_26 kx_1040 (by decide +kernel) rfl (by decide) (Nat.le_of_ble_eq_true rfl) rfl dX2_placeOf_42 rfl (fun z3 T3 y3 => ?_)
          obtain ⟨rfl, hT⟩ := y3
          obtain rfl := hT.symm
          refine ks_mulN dX2_placeOf_45 rfl ?_
          refine ks_aload_n dX2_placeOf_46 rfl rfl ?_
          refine ks_iload dX2_placeOf_47 rfl rfl ?_
          refine ks_callS (n := 4) (M' := mX2_isSame) (c_ch_isSame (d := d) (a := 32 * (f i / 2 ^ 19 % 16)) (b := at_) ox.2.2.2.1 hy ox.2.2.2.2.2.2.1 hgy (by decide) hNy (by omega) hat) kx_1041 kx_1042 kx_26 kx_1043 (by decide +kernel) rfl (by decide) (Nat.le_of_ble_eq_true rfl) rfl dX2_placeOf_49 rfl (fun z4 T4 y4 => ?_)
          obtain ⟨rfl, hT⟩ := y4
          obtain rfl := hT.symm
          have es : sm32 g3x (32 * (f i / 2 ^ 19 % 16)) gy at_ = sm32 (idB (bkM (B (f i / 2 ^ 23))) (f i / 2 ^ 19 % 16)) 0 (fun j => gy (at_ + j)) 0 := sm32_c (fun j hj => by rw [Nat.zero_add]; exact idx _ hc3 j hj) (fun j hj => by rw [Nat.zero_add])
          rw [es]
          refine ks_if_eqZ (tgt := 58) dX2_placeOf_52 (by decide) rfl (fun h3 => ?_) (fun h3 => ?_)
          · refine ks_incN (c := 1) (e := i + 1) dX2_placeOf_58 rfl (by decide) rfl (by decide) rfl ?_
            refine ks_sub [(6, _), (0, _), (1, _), (2, _), (3, _), (4, _), (5, _), (7, _)] rfl ?_
            refine ks_goto (tgt := 3) dX2_placeOf_61 (by decide) ?_
            rw [if_neg (by rw [eok, h3, Bool.and_false]; simp)] at hp
            exact ks_sub [(0, _), (1, _), (2, _), (3, _), (4, _), (5, _), (6, _)] rfl (ih (i + 1) (by omega) hp)
          · refine ks_iload dX2_placeOf_55 rfl rfl ?_
            refine ks_iret rfl dX2_placeOf_57 ?_
            rw [if_pos (by rw [eok, h3, decide_eq_true h2]; rfl)] at hp
            refine ⟨?_, rfl⟩
            rw [← hp, nI_pred]
  refine ks_of (by decide) rfl rfl (Nat.le_of_ble_eq_true rfl) ?_
  show ks_X l G mX2_placeOf (d + 1) 0 [(0, .ref 41), (1, .ref r), (2, .int (nI k)), (3, .ref y), (4, .int (nI at_)), (5, .int ix)] [] S _
  refine ks_iconst (x := nI 0) dX2_placeOf_0 (by decide) rfl ?_
  refine ks_istore dX2_placeOf_1 (by decide) rfl ?_
  refine ks_sub [(6, _), (0, _), (1, _), (2, _), (3, _), (4, _), (5, _)] rfl ?_
  exact ks_sub [(0, _), (1, _), (2, _), (3, _), (4, _), (5, _), (6, _)] rfl (loop k 0 (by omega) rfl)
set_option maxRecDepth 100000 in
set_option maxHeartbeats 800000 in
theorem c_ch_numberOf {l : Launch} {G : ks_G} {d : Nat} {S : ks_S} {n best : Nat} {cc : Int32} {tk : Int64} {B : Nat → Bk} (hX : chX S n best cc tk B) {y Ny at_ : Nat} {gy : Nat → Nat} (hy : S.2.2 y = some (kB Ny gy)) (hgy : kO gy) (hNy : Ny < 2 ^ 20) (hat : at_ + 32 ≤ Ny) : ks_P l G yX2_numberOf mX2_numberOf (d + 1) [.ref 41, .ref y, .int (nI at_)] S (fun z S' => z = some (.int (nI (plD (fun i => sm32 (hsB (bkM (B i))) 0 (fun j => gy (at_ + j)) 0) n 0) - 1)) ∧ S' = S) := by
  obtain ⟨hO, ⟨bf, h42, hbf⟩, hB, hn60⟩ := id hX
  obtain ⟨ok, hok⟩ : ∃ ok, ok = fun i => sm32 (hsB (bkM (B i))) 0 (fun j => gy (at_ + j)) 0 := ⟨_, rfl⟩
  rw [← hok]
  have loop : ∀ c i, i + c = n → plD ok c i = plD ok n 0 → ks_X l G mX2_numberOf (d + 1) 2 [(0, .ref 41), (1, .ref y), (2, .int (nI at_)), (3, .int (nI i))] [] S (fun z S' => z = some (.int (nI (plD ok n 0) - 1)) ∧ S' = S) := by
    intro c
    induction c with
    | zero =>
      intro i hi hp
      refine ks_iload_n dX2_numberOf_2 rfl rfl ?_
      refine ks_aload_n dX2_numberOf_3 rfl rfl ?_
      refine ks_getf (T := TX2) (kf := 3) kx_735 rfl in_X2 cl_X2 (by decide) hO rfl dX2_numberOf_4 rfl ?_
      refine ks_icmp_geN (tgt := 36) (by omega) (by omega) dX2_numberOf_7 (by decide) rfl (fun h1 => ?_) (fun h1 => ?_)
      · refine ks_iconst (x := (-1)) dX2_numberOf_36 (by decide) rfl ?_
        refine ks_iret rfl dX2_numberOf_37 ?_
        refine ⟨?_, rfl⟩
        rw [← hp]
        rfl
      · omega
    | succ c ih =>
      intro i hi hp
      refine ks_iload_n dX2_numberOf_2 rfl rfl ?_
      refine ks_aload_n dX2_numberOf_3 rfl rfl ?_
      refine ks_getf (T := TX2) (kf := 3) kx_735 rfl in_X2 cl_X2 (by decide) hO rfl dX2_numberOf_4 rfl ?_
      refine ks_icmp_geN (tgt := 36) (by omega) (by omega) dX2_numberOf_7 (by decide) rfl (fun h1 => ?_) (fun h1 => ?_)
      · omega
      · rw [plD] at hp
        have eok : ok i = sm32 (hsB (bkM (B i))) 0 (fun j => gy (at_ + j)) 0 := by rw [hok]
        obtain ⟨g1x, f2x, g3x, g4x, ox, lex, egx, blx, stx, idx, hsx, cox⟩ := hB i (by omega)
        refine ks_aload_n dX2_numberOf_10 rfl rfl ?_
        refine ks_getf (T := TX2) (kf := 0) kx_729 rfl in_X2 cl_X2 (by decide) hO rfl dX2_numberOf_11 rfl ?_
        refine ks_iload_n dX2_numberOf_14 rfl rfl ?_
        refine ks_aaldN (i := i) (b := (bkN (B i))) (by decide) h42 rfl (by omega) (by decide) (hbf i (by omega)) dX2_numberOf_15 rfl ?_
        refine ks_getf (T := TX0) (kf := 3) kx_943 rfl in_X0 cl_X0 (by decide) ox.1 rfl dX2_numberOf_16 rfl ?_
        refine ks_iconst (x := nI 0) dX2_numberOf_19 (by decide) rfl ?_
        refine ks_aload_n dX2_numberOf_20 rfl rfl ?_
        refine ks_iload_n dX2_numberOf_21 rfl rfl ?_
        refine ks_callS (n := 4) (M' := mX2_isSame) (c_ch_isSame (d := d) (a := 0) (b := at_) ox.2.2.2.2.1 hy ox.2.2.2.2.2.2.2.1 hgy (by decide) hNy (by decide) hat) kx_1041 kx_1042 kx_26 kx_1043 (by decide +kernel) rfl (by decide) (Nat.le_of_ble_eq_true rfl) rfl dX2_numberOf_22 rfl (fun z4 T4 y4 => ?_)
        obtain ⟨rfl, hT⟩ := y4
        obtain rfl := hT.symm
        have es : sm32 g4x 0 gy at_ = sm32 (hsB (bkM (B i))) 0 (fun j => gy (at_ + j)) 0 := sm32_c (fun j hj => by rw [Nat.zero_add]; exact hsx j hj) (fun j hj => by rw [Nat.zero_add])
        rw [es, ← eok]
        refine ks_if_eqZ (tgt := 30) dX2_numberOf_25 (by decide) rfl (fun h3 => ?_) (fun h3 => ?_)
        · refine ks_incN (c := 1) (e := i + 1) dX2_numberOf_30 rfl (by decide) rfl (by decide) rfl ?_
          refine ks_sub [(3, _), (0, _), (1, _), (2, _)] rfl ?_
          refine ks_goto (tgt := 2) dX2_numberOf_33 (by decide) ?_
          rw [if_neg (by rw [h3]; decide)] at hp
          exact ks_sub [(0, _), (1, _), (2, _), (3, _)] rfl (ih (i + 1) (by omega) hp)
        · refine ks_iload_n dX2_numberOf_28 rfl rfl ?_
          refine ks_iret rfl dX2_numberOf_29 ?_
          rw [if_pos h3] at hp
          refine ⟨?_, rfl⟩
          rw [← hp, nI_pred]
  refine ks_of (by decide) rfl rfl (Nat.le_of_ble_eq_true rfl) ?_
  show ks_X l G mX2_numberOf (d + 1) 0 [(0, .ref 41), (1, .ref y), (2, .int (nI at_))] [] S _
  refine ks_iconst (x := nI 0) dX2_numberOf_0 (by decide) rfl ?_
  refine ks_istore_n dX2_numberOf_1 (by decide) rfl ?_
  refine ks_sub [(3, _), (0, _), (1, _), (2, _)] rfl ?_
  exact ks_sub [(0, _), (1, _), (2, _), (3, _)] rfl (loop n 0 (by omega) rfl)
