/-! CURVE: the bytes of keys -/
def baR (j : Nat) : Nat := if j = 55 then 55066263022277343669578718895168534326250603453777594175500187360389116729240 else if j = 56 then 32670510020758816978083085130507043184471273380659243275938904335757337482424 else if j = 57 then 1 else 0
/-- one to fifteen times the base -/
def baT (i : Nat) : Pt := mlT baR 55 i
theorem baT_L : ∀ i, i < 15 → ptL (baT i) := mlT_L (by
  have h : ∀ j, baR j < pP := fun j => by
    unfold baR
    split
    · decide
    · split
      · decide
      · split <;> decide
  exact fun i _ => ⟨h _, h _, h _⟩)
theorem ptS_z {P Q : Pt} (h : P.2.2 = 0) : ptS P Q = Q := by
  unfold ptS ptB ptO
  rw [decide_eq_true h, Bool.true_or, if_pos rfl, if_pos h]
def stR (s t : Pt × Bool) : Prop := s = t ∨ (s.2 = false ∧ t.2 = false ∧ s.1.2.2 = 0 ∧ t.1.2.2 = 0)
theorem smA_c {T T' : Nat → Pt} {b : Nat} (P : Pt) (h : b = 0 ∨ ∀ i, i < 15 → T i = T' i) (hb : b < 16) : smA T b P = smA T' b P := by
  unfold smA
  split
  · rcases h with h | h
    · omega
    · rw [h (b - 1) (by omega)]
  · rfl
theorem smA_z {T : Nat → Pt} {b : Nat} {P : Pt} (h : P.2.2 = 0) : smA T b P = if 0 < b then T (b - 1) else P := by
  unfold smA
  split
  · exact ptS_z h
  · rfl
theorem smStep_R {B B' K K' : Nat → Pt} {b k : Nat} (hB : ∀ i, i < 15 → B i = B' i) (hK : k = 0 ∨ ∀ i, i < 15 → K i = K' i) (hb : b < 16) (hk : k < 16) {s t : Pt × Bool} (h : stR s t) : stR (smStep B K b k s) (smStep B' K' b k t) := by
  rcases h with h | ⟨h1, h2, h3, h4⟩
  · subst h
    left
    unfold smStep
    rw [smA_c _ (Or.inr hB) hb, smA_c _ hK hk]
  · unfold smStep
    rw [h1, h2, show smD false s.1 = s.1 from rfl, show smD false t.1 = t.1 from rfl, smA_z h3, smA_z h4]
    by_cases c : 0 < b
    · left
      rw [if_pos c, if_pos c, hB (b - 1) (by omega), smA_c _ hK hk]
    · rw [if_neg c, if_neg c, smA_z h3, smA_z h4]
      by_cases c2 : 0 < k
      · left
        rw [if_pos c2, if_pos c2]
        rcases hK with h | h
        · omega
        · rw [h (k - 1) (by omega)]
      · right
        rw [if_neg c2, if_neg c2, decide_eq_false c, decide_eq_false c2]
        exact ⟨rfl, rfl, h3, h4⟩
theorem dg4_lt (u i : Nat) : dg4 u i < 16 := Nat.mod_lt _ (by decide)
theorem dg4_0 (i : Nat) : dg4 0 i = 0 := by unfold dg4; rw [Nat.zero_div]
theorem smL_R {B B' K K' : Nat → Pt} {u v : Nat} (hB : ∀ i, i < 15 → B i = B' i) (hK : v = 0 ∨ ∀ i, i < 15 → K i = K' i) : ∀ (n : Nat) (s t : Pt × Bool), stR s t → stR (smL B K u v n s) (smL B' K' u v n t)
  | 0, s, t, h => h
  | n + 1, s, t, h => smL_R hB hK n _ _ (smStep_R hB (by rcases hK with e | e; left; rw [e, dg4_0]; exact Or.inr e) (dg4_lt _ _) (dg4_lt _ _) h)
/-- u times the base -/
def kG (u : Nat) : Pt := (smL baT baT u 0 64 ((0, 0, 0), false)).1
theorem kG_of {B K : Nat → Pt} {u x y : Nat} (hB : ∀ i, i < 15 → B i = baT i) : (smL B K u 0 64 ((x, y, 0), false)).1 = kG u ∨ ((smL B K u 0 64 ((x, y, 0), false)).1.2.2 = 0 ∧ (kG u).2.2 = 0) := by
  have h : stR (smL B K u 0 64 ((x, y, 0), false)) (smL baT baT u 0 64 ((0, 0, 0), false)) := smL_R hB (Or.inl rfl) 64 _ _ (Or.inr ⟨rfl, rfl, rfl, rfl⟩)
  unfold kG
  rcases h with h | h
  · left; rw [h]
  · right; exact ⟨h.2.2.1, h.2.2.2⟩
/-- the two coordinates of a point -/
def afP (P : Pt) (x y : Nat) : Prop := dvP pP P.1 (mM P.2.2 P.2.2) x ∧ dvP pP P.2.1 (mM (mM P.2.2 P.2.2) P.2.2) y
theorem dvP_z {X v : Nat} : dvP pP X 0 v ↔ v = 0 := by
  unfold dvP
  rw [Nat.gcd_zero_left]
  constructor
  · exact fun h => h.2.1 rfl
  · rintro rfl
    exact ⟨by decide, fun _ => rfl, fun h => absurd h (by decide)⟩
theorem afP_of {P P' : Pt} {x y : Nat} (h : P = P' ∨ (P.2.2 = 0 ∧ P'.2.2 = 0)) (ha : afP P x y) : afP P' x y := by
  rcases h with h | ⟨h1, h2⟩
  · rw [← h]; exact ha
  · unfold afP at ha ⊢
    rw [h1, show mM 0 0 = 0 from rfl, show mM 0 0 = 0 from rfl, dvP_z, dvP_z] at ha
    rw [h2, show mM 0 0 = 0 from rfl, show mM 0 0 = 0 from rfl, dvP_z, dvP_z]
    exact ha
def cuX (S : ks_S) (ir : Bool) (R Q : Nat → Nat) : Prop := cvX S ir R ∧ scX S Q ∧ ∃ rw_, kO rw_ ∧ S.2.2 19 = some (kB 64 rw_)
/-- what holds of the registers between calls -/
def cuR (R : Nat → Nat) : Prop := R 6 = 7 ∧ ptL (ptR R 7) ∧ (∀ i, i < 15 → ptR R (55 + 3 * i) = baT i) ∧ (∀ i, 0 < i → i < 15 → ptL (ptR R (10 + 3 * i)))
def cuI (S : ks_S) : Prop := ∃ ir R Q, cuX S ir R Q ∧ cuR R
theorem cuI.up {S S1 : ks_S} {L : List Nat} (h : cuI S) (hu : ks_up S S1 L) (hL : ∀ x ∈ L, x < 14 ∨ 19 < x) : cuI S1 := by
  obtain ⟨ir, R, Q, ⟨h1, h2, rw_, h3, h4⟩, h5⟩ := h
  have n : ∀ x, 14 ≤ x → x ≤ 19 → x ∉ L := fun x a b hx => by have := hL x hx; omega
  exact ⟨ir, R, Q, ⟨⟨hu.at h1.1 (n _ (by decide) (by decide)), h1.2.1.up hu (n _ (by decide) (by decide)) (n _ (by decide) (by decide)), h1.2.2⟩, h2.up hu (n _ (by decide) (by decide)) (n _ (by decide) (by decide)), rw_, h3, hu.at h4 (n _ (by decide) (by decide))⟩, h5⟩
theorem cuR.of {R R2 : Nat → Nat} (h : cuR R) (hj : ∀ j, 6 ≤ j → j < 7 ∨ 10 ≤ j → j < 100 → R2 j = R j) (hS : ptL (ptR R2 7)) : cuR R2 := by
  refine ⟨(hj 6 (by decide) (by decide) (by decide)).trans h.1, hS, fun i hi => ?_, fun i h0 hi => ?_⟩
  · rw [← h.2.2.1 i hi]; unfold ptR; rw [hj _ (by omega) (by omega) (by omega), hj _ (by omega) (by omega) (by omega), hj _ (by omega) (by omega) (by omega)]
  · have := h.2.2.2 i h0 hi; unfold ptR at this ⊢; rw [hj _ (by omega) (by omega) (by omega), hj _ (by omega) (by omega) (by omega), hj _ (by omega) (by omega) (by omega)]; exact this
def keyL (wh : Bool) (x y : Nat) : List Nat := [if wh = true then 4 else 2 + y % 2] ++ bytL (beB x) 0 32 ++ (if wh = true then bytL (beB y) 0 32 else [])
theorem bytL_split (f : Nat → Nat) (i n m : Nat) : bytL f i (n + m) = bytL f i n ++ bytL f (i + n) m := by
  unfold bytL
  rw [List.range_add, List.map_append, List.map_map]
  congr 1
  apply List.map_congr_left
  intro k _
  show f (i + (n + k)) = f (i + n + k)
  rw [Nat.add_assoc]
set_option maxRecDepth 100000 in
set_option maxHeartbeats 800000 in
theorem c_cv_writeKey {l : Launch} {G : ks_G} {d : Nat} {S : ks_S} {n a b N : Nat} {wh : Bool} {m : List Nat} (hI : cuI S) (hB : bfS S b a N (some m)) (hN : N < 2 ^ 31) (hm : m.length + 65 ≤ N) (hn : n < 2 ^ 31) (hb9 : b < 14 ∨ 19 < b) (ha9 : a < 14 ∨ 19 < a) : ks_P l G yX3_writeKey mX3_writeKey (d + 4) [.ref 14, .int (nI n), .int (ks_bo wh), .ref b] S (fun z S' => z = none ∧ ks_up S S' [16, 18, 19, a, b] ∧ cuI S' ∧ ∃ x y, afP (kG n) x y ∧ bfS S' b a N (some (m ++ keyL wh x y))) := by
  obtain ⟨ir, R, Q, ⟨hC, hQ, rw_, hrw, hW⟩, hR⟩ := hI
  have p2 := pP_lt
  refine ks_of (by decide) rfl rfl (Nat.le_of_ble_eq_true rfl) ?_
  show ks_X l G mX3_writeKey (d + 4) 0 [(0, .ref 14), (1, .int (nI n)), (2, .int (ks_bo wh)), (3, .ref b)] [] S _
  refine ks_aload_n dX3_writeKey_0 rfl rfl ?_
  refine ks_getf (T := TX3) (kf := 1) kx_536 rfl in_X3 cl_X3 (by decide) hC.1 rfl dX3_writeKey_1 rfl ?_
  refine ks_bipush (x := nI 27) dX3_writeKey_4 (by decide) rfl ?_
  refine ks_iload_n dX3_writeKey_6 rfl rfl ?_
  refine ks_callV (n := 2) (M' := mX5_loadSmall) (c_fd_loadSmall (d := d + 1) (o := 3) (v := n) hQ.1 (by decide) (by omega)) hQ.1.1 cl_X5 rfl kx_145 kx_146 kx_147 kx_5 kx_148 (by decide +kernel) rfl (by decide) (Nat.le_of_ble_eq_true rfl) rfl dX3_writeKey_7 rfl (fun z1 T1 y1 => ?_)
  obtain ⟨rfl, u1, f1⟩ := y1
  have Q1 : scX T1 (va_up Q 3 n) := ⟨f1, (va_up_ne _ _ (by decide)).trans hQ.2⟩
  have q3 : va_up Q 3 n 3 = n := va_up_self _ _ _
  have C1 : cvX T1 ir R := ⟨u1.at hC.1 (by decide), hC.2.1.up u1 (by decide) (by decide), hC.2.2⟩
  have W1 := u1.at hW (by decide)
  generalize va_up Q 3 n = Q' at *
  refine ks_aload_n dX3_writeKey_10 rfl rfl ?_
  refine ks_iconst (x := nI 0) dX3_writeKey_11 (by decide) rfl ?_
  refine ks_ti (y := ks_bo false) rfl ?_
  refine ks_callV (n := 1) (M' := mX3_sum) (c_cv_sum (d := d) (wk := false) C1 Q1 hR.2.1 (fun i hi => by rw [hR.2.2.1 i hi]; exact baT_L i hi) (fun h => by cases h)) C1.1 cl_X3 rfl kx_1182 kx_1183 kx_1184 kx_4 kx_1185 (by decide +kernel) rfl (by decide) (Nat.le_of_ble_eq_true rfl) rfl dX3_writeKey_12 rfl (fun z2 T2 y2 => ?_)
  obtain ⟨rfl, u2, R2, C2, hP, hj2, hL2⟩ := y2
  rw [q3, if_neg (by decide)] at hP
  have kP := kG_of (B := fun i => ptR R (55 + 3 * i)) (K := fun i => ptR R (10 + 3 * i)) (u := n) (x := R 7) (y := R 8) hR.2.2.1
  rw [← hP] at kP
  clear hP
  have R2c : cuR R2 := hR.of (fun j h1 h2 _ => hj2 j h1 h2) hL2
  have Q2 := Q1.up u2 (by decide) (by decide)
  have W2 := u2.at W1 (by decide)
  have b7 : R2 7 < pP := hL2.1
  have b8 : R2 8 < pP := hL2.2.1
  have b9 : R2 9 < pP := hL2.2.2
  refine ks_aload_n dX3_writeKey_15 rfl rfl ?_
  refine ks_iconst (x := nI 0) dX3_writeKey_16 (by decide) rfl ?_
  refine ks_bipush (x := nI 81) dX3_writeKey_17 (by decide) rfl ?_
  refine ks_bipush (x := nI 81) dX3_writeKey_19 (by decide) rfl ?_
  refine ks_callV (n := 3) (M' := mX3_multiply) (c_cvm (d := d + 3) (o := 0) (x := 9) (y := 9) C2 (by decide) (by decide) (by decide) (by omega) (by omega)) C2.1 cl_X3 rfl kx_502 kx_504 kxp_2 kx_4 kx_505 (by decide +kernel) rfl (by decide) (Nat.le_of_ble_eq_true rfl) rfl dX3_writeKey_21 rfl (fun z3 T3 y3 => ?_)
  obtain ⟨rfl, u3, C3⟩ := y3
  have m3 := mM_lt (R2 9) (R2 9)
  have s3 : va_up R2 0 (mM (R2 9) (R2 9)) 0 = mM (R2 9) (R2 9) := va_up_self _ _ _
  have j3 : ∀ j, 6 ≤ j → j ≤ 100 → va_up R2 0 (mM (R2 9) (R2 9)) j = R2 j := fun j h _ => va_up_ne _ _ (by omega)
  generalize va_up R2 0 (mM (R2 9) (R2 9)) = F3 at *
  have W3 := u3.at W2 (by decide)
  refine ks_aload_n dX3_writeKey_24 rfl rfl ?_
  refine ks_getf (T := TX3) (kf := 0) kx_535 rfl in_X3 cl_X3 (by decide) C3.1 rfl dX3_writeKey_25 rfl ?_
  refine ks_bipush (x := nI 36) dX3_writeKey_28 (by decide) rfl ?_
  refine ks_bipush (x := nI 63) dX3_writeKey_30 (by decide) rfl ?_
  refine ks_iconst (x := nI 0) dX3_writeKey_32 (by decide) rfl ?_
  refine ks_callV (n := 3) (M' := mX5_divide) (c_fd_divide (d := d) (o := 4) (x := 7) (y := 0) C3.2.1 (by decide) (by decide) (by decide) (by rw [C3.2.2]; exact p2) (by rw [C3.2.2]; decide) (by rw [C3.2.2, j3 7 (by decide) (by decide)]; exact b7) (by rw [C3.2.2, s3]; exact m3)) C3.2.1.1 cl_X5 rfl kx_1190 kx_1191 kx_1192 kx_5 kx_1193 (by decide +kernel) rfl (by decide) (Nat.le_of_ble_eq_true rfl) rfl dX3_writeKey_33 rfl (fun z4 T4 y4 => ?_)
  obtain ⟨rfl, u4, F4, v4, f4, k4, e4, p4⟩ := y4
  rw [C3.2.2, j3 7 (by decide) (by decide), s3] at p4
  have C4 := C3.of u4 f4 (k4 100 (by decide) (by decide))
  have s4 : F4 0 = mM (R2 9) (R2 9) := (k4 0 (by decide) (by decide)).trans s3
  have j4 : ∀ j, 6 ≤ j → j ≤ 100 → F4 j = R2 j := fun j h h2 => (k4 j h2 (by omega)).trans (j3 j h h2)
  have W4 := u4.at W3 (by decide)
  refine ks_aload_n dX3_writeKey_36 rfl rfl ?_
  refine ks_iconst (x := nI 0) dX3_writeKey_37 (by decide) rfl ?_
  refine ks_iconst (x := nI 0) dX3_writeKey_38 (by decide) rfl ?_
  refine ks_bipush (x := nI 81) dX3_writeKey_39 (by decide) rfl ?_
  refine ks_callV (n := 3) (M' := mX3_multiply) (c_cvm (d := d + 3) (o := 0) (x := 0) (y := 9) C4 (by decide) (by decide) (by decide) (by rw [s4]; omega) (by rw [j4 9 (by decide) (by decide)]; omega)) C4.1 cl_X3 rfl kx_502 kx_504 kxp_2 kx_4 kx_505 (by decide +kernel) rfl (by decide) (Nat.le_of_ble_eq_true rfl) rfl dX3_writeKey_41 rfl (fun z5 T5 y5 => ?_)
  obtain ⟨rfl, u5, C5⟩ := y5
  rw [s4, j4 9 (by decide) (by decide)] at C5
  have m5 := mM_lt (mM (R2 9) (R2 9)) (R2 9)
  have s5 : va_up F4 0 (mM (mM (R2 9) (R2 9)) (R2 9)) 0 = mM (mM (R2 9) (R2 9)) (R2 9) := va_up_self _ _ _
  have j5 : ∀ j, 6 ≤ j → j ≤ 100 → va_up F4 0 (mM (mM (R2 9) (R2 9)) (R2 9)) j = R2 j := fun j h h2 => (va_up_ne _ _ (by omega)).trans (j4 j h h2)
  have x5 : va_up F4 0 (mM (mM (R2 9) (R2 9)) (R2 9)) 4 = v4 := (va_up_ne _ _ (by decide)).trans e4
  generalize va_up F4 0 (mM (mM (R2 9) (R2 9)) (R2 9)) = F5 at *
  have W5 := u5.at W4 (by decide)
  refine ks_aload_n dX3_writeKey_44 rfl rfl ?_
  refine ks_getf (T := TX3) (kf := 0) kx_535 rfl in_X3 cl_X3 (by decide) C5.1 rfl dX3_writeKey_45 rfl ?_
  refine ks_bipush (x := nI 45) dX3_writeKey_48 (by decide) rfl ?_
  refine ks_bipush (x := nI 72) dX3_writeKey_50 (by decide) rfl ?_
  refine ks_iconst (x := nI 0) dX3_writeKey_52 (by decide) rfl ?_
  refine ks_callV (n := 3) (M' := mX5_divide) (c_fd_divide (d := d) (o := 5) (x := 8) (y := 0) C5.2.1 (by decide) (by decide) (by decide) (by rw [C5.2.2]; exact p2) (by rw [C5.2.2]; decide) (by rw [C5.2.2, j5 8 (by decide) (by decide)]; exact b8) (by rw [C5.2.2, s5]; exact m5)) C5.2.1.1 cl_X5 rfl kx_1190 kx_1191 kx_1192 kx_5 kx_1193 (by decide +kernel) rfl (by decide) (Nat.le_of_ble_eq_true rfl) rfl dX3_writeKey_53 rfl (fun z6 T6 y6 => ?_)
  obtain ⟨rfl, u6, F6, v6, f6, k6, e6, p6⟩ := y6
  rw [C5.2.2, j5 8 (by decide) (by decide), s5] at p6
  have C6 := C5.of u6 f6 (k6 100 (by decide) (by decide))
  have x6 : F6 4 = v4 := (k6 4 (by decide) (by decide)).trans x5
  have j6 : ∀ j, 6 ≤ j → j ≤ 100 → F6 j = R2 j := fun j h h2 => (k6 j h2 (by omega)).trans (j5 j h h2)
  have af : afP (kG n) v4 v6 := afP_of kP ⟨p4, p6⟩
  have R6c : cuR F6 := R2c.of (fun j h1 _ h2 => j6 j h1 (by omega)) (by unfold ptR; rw [j6 7 (by decide) (by decide), j6 8 (by decide) (by decide), j6 9 (by decide) (by decide)]; exact hL2)
  have v4b : v4 < 2 ^ 256 := Nat.lt_trans p4.1 p2
  have v6b : v6 < 2 ^ 256 := Nat.lt_trans p6.1 p2
  clear p4 p6 kP
  have W6 := u6.at W5 (by decide)
  refine ks_aload_n dX3_writeKey_56 rfl rfl ?_
  refine ks_getf (T := TX3) (kf := 0) kx_535 rfl in_X3 cl_X3 (by decide) C6.1 rfl dX3_writeKey_57 rfl ?_
  refine ks_bipush (x := nI 36) dX3_writeKey_60 (by decide) rfl ?_
  refine ks_aload_n dX3_writeKey_62 rfl rfl ?_
  refine ks_getf (T := TX3) (kf := 2) kx_537 rfl in_X3 cl_X3 (by decide) C6.1 rfl dX3_writeKey_63 rfl ?_
  refine ks_iconst (x := nI 0) dX3_writeKey_66 (by decide) rfl ?_
  refine ks_callV (n := 3) (M' := mX5_store) (c_fd_store (d := d + 2) (x := 4) (i := 0) C6.2.1 (by decide) W6 (by decide) (by decide) (by decide) (by decide)) C6.2.1.1 cl_X5 rfl kx_1210 kx_1211 kx_1212 kx_5 kx_1213 (by decide +kernel) rfl (by decide) (Nat.le_of_ble_eq_true rfl) rfl dX3_writeKey_67 rfl (fun z7 T7 y7 => ?_)
  obtain ⟨rfl, u7, W7⟩ := y7
  rw [x6] at W7
  have C7 : cvX T7 ir F6 := ⟨u7.at C6.1 (by decide), C6.2.1.up u7 (by decide) (by decide), C6.2.2⟩
  have k7 := kO_st (V := v4) hrw 0 32
  refine ks_aload_n dX3_writeKey_70 rfl rfl ?_
  refine ks_getf (T := TX3) (kf := 0) kx_535 rfl in_X3 cl_X3 (by decide) C7.1 rfl dX3_writeKey_71 rfl ?_
  refine ks_bipush (x := nI 45) dX3_writeKey_74 (by decide) rfl ?_
  refine ks_aload_n dX3_writeKey_76 rfl rfl ?_
  refine ks_getf (T := TX3) (kf := 2) kx_537 rfl in_X3 cl_X3 (by decide) C7.1 rfl dX3_writeKey_77 rfl ?_
  refine ks_bipush (x := nI 32) dX3_writeKey_80 (by decide) rfl ?_
  refine ks_callV (n := 3) (M' := mX5_store) (c_fd_store (d := d + 2) (x := 5) (i := 32) C7.2.1 (by decide) W7 (by decide) (by decide) (by decide) (by decide)) C7.2.1.1 cl_X5 rfl kx_1210 kx_1211 kx_1212 kx_5 kx_1213 (by decide +kernel) rfl (by decide) (Nat.le_of_ble_eq_true rfl) rfl dX3_writeKey_82 rfl (fun z8 T8 y8 => ?_)
  obtain ⟨rfl, u8, W8⟩ := y8
  rw [e6] at W8
  have C8 : cvX T8 ir F6 := ⟨u8.at C7.1 (by decide), C7.2.1.up u8 (by decide) (by decide), C7.2.2⟩
  have kF8 := kO_st (V := v6) k7 32 32
  have g1 : ∀ j, j < 32 → stB v6 (stB v4 rw_ 0 32) 32 32 j = beB v4 j := fun j hj => by
    unfold stB beB
    rw [if_neg (by omega), if_pos (by omega), show 0 + 31 - j = 31 - j by omega]
  have g2 : ∀ j, j < 32 → stB v6 (stB v4 rw_ 0 32) 32 32 (32 + j) = beB v6 j := fun j hj => by
    unfold stB beB
    rw [if_pos (by omega), show 32 + 31 - (32 + j) = 31 - j by omega]
  generalize stB v6 (stB v4 rw_ 0 32) 32 32 = F at *
  have g63 : F 63 % 2 = v6 % 2 := by
    rw [g2 31 (by decide)]
    unfold beB
    rw [show 8 * (31 - 31) = 0 from rfl, Nat.pow_zero, Nat.div_one]
    omega
  have uu : ks_up S T8 [16, 18, 19] := (u1.mono (by decide)).trans ((u2.mono (by decide)).trans ((u3.mono (by decide)).trans ((u4.mono (by decide)).trans ((u5.mono (by decide)).trans ((u6.mono (by decide)).trans ((u7.mono (by decide)).trans (u8.mono (by decide))))))))
  have B8 := hB.up uu (by simp only [List.mem_cons, List.not_mem_nil, or_false]; omega) (by simp only [List.mem_cons, List.not_mem_nil, or_false]; omega)
  have Q8 : scX T8 Q' := Q1.up ((u2.mono (L' := [16, 19]) (by decide)).trans ((u3.mono (by decide)).trans ((u4.mono (by decide)).trans ((u5.mono (by decide)).trans ((u6.mono (by decide)).trans ((u7.mono (by decide)).trans (u8.mono (by decide)))))))) (by decide) (by decide)
  have I8 : cuI T8 := ⟨ir, F6, Q', ⟨C8, Q8, F, kF8, W8⟩, R6c⟩
  have O8 := C8.1
  refine ks_aload_n dX3_writeKey_85 rfl rfl ?_
  refine ks_iload_n dX3_writeKey_86 rfl rfl ?_
  refine ks_if_eqZ (tgt := 96) dX3_writeKey_87 (by decide) rfl (fun h1 => ?_) (fun h1 => ?_)
  · subst h1
    refine ks_iconst (x := nI 2) dX3_writeKey_96 (by decide) rfl ?_
    refine ks_aload_n dX3_writeKey_97 rfl rfl ?_
    refine ks_getf (T := TX3) (kf := 2) kx_537 rfl in_X3 cl_X3 (by decide) O8 rfl dX3_writeKey_98 rfl ?_
    refine ks_bipush (x := nI 63) dX3_writeKey_101 (by decide) rfl ?_
    refine ks_baldB (i := 63) W8 rfl (by decide) (by decide) dX3_writeKey_103 rfl ?_
    refine ks_iconst (x := nI 1) dX3_writeKey_104 (by decide) rfl ?_
    refine ks_iand dX3_writeKey_105 rfl ?_
    refine ks_ti (y := nI (F 63 % 2)) (by_bit _ (kF8 63)) ?_
    rw [g63]
    refine ks_addN dX3_writeKey_106 rfl ?_
    refine ks_i2lN (by omega) dX3_writeKey_107 rfl ?_
    refine ks_iconst (x := nI 1) dX3_writeKey_108 (by decide) rfl ?_
    obtain ⟨l8, g8, i8, j8, k8, ob8, m8⟩ := id B8
    refine ks_callV (n := 2) (M' := mX1_addNumber) (bf_number (d := d + 3) (v := lN (2 + v6 % 2)) (sz := 1) B8 hN (by decide)) ob8 cl_X1 rfl kx_1216 kx_829 kx_830 kx_2 kx_831 (by decide +kernel) rfl (by decide) (Nat.le_of_ble_eq_true rfl) rfl dX3_writeKey_109 rfl (fun z9 T9 y9 => ?_)
    obtain ⟨rfl, u9, B9⟩ := y9
    have O9 := u9.at O8 (by simp only [List.mem_cons, List.not_mem_nil, or_false]; omega)
    have W9 := u9.at W8 (by simp only [List.mem_cons, List.not_mem_nil, or_false]; omega)
    have I9 := I8.up u9 (by intro q hq; simp only [List.mem_cons, List.not_mem_nil, or_false] at hq; omega)
    rw [num1 (by omega), bfA_fit (by simp only [List.length_cons, List.length_nil]; omega)] at B9
    refine ks_aload_n dX3_writeKey_112 rfl rfl ?_
    refine ks_aload_n dX3_writeKey_113 rfl rfl ?_
    refine ks_getf (T := TX3) (kf := 2) kx_537 rfl in_X3 cl_X3 (by decide) O9 rfl dX3_writeKey_114 rfl ?_
    refine ks_iconst (x := nI 0) dX3_writeKey_117 (by decide) rfl ?_
    refine ks_iload_n dX3_writeKey_118 rfl rfl ?_
    refine ks_if_eqZ (tgt := 127) dX3_writeKey_119 (by decide) rfl (fun h2 => ?_) (fun h2 => ?_)
    · refine ks_bipush (x := nI 32) dX3_writeKey_127 (by decide) rfl ?_
      obtain ⟨l9, g9, i9, j9, k9, ob9, m9⟩ := id B9
      refine ks_callV (n := 3) (M' := mX1_addBytes) (bf_bytes (d := d + 2) (i := 0) (n := 32) B9 hN W9 kF8 (by decide) (by decide)) ob9 cl_X1 rfl kx_1217 kx_872 kx_873 kx_2 kx_874 (by decide +kernel) rfl (by decide) (Nat.le_of_ble_eq_true rfl) rfl dX3_writeKey_129 rfl (fun z10 T10 y10 => ?_)
      obtain ⟨rfl, u10, B10⟩ := y10
      have O10 := u10.at O9 (by simp only [List.mem_cons, List.not_mem_nil, or_false]; omega)
      have W10 := u10.at W9 (by simp only [List.mem_cons, List.not_mem_nil, or_false]; omega)
      have I10 := I9.up u10 (by intro q hq; simp only [List.mem_cons, List.not_mem_nil, or_false] at hq; omega)
      rw [bfA_fit (by simp only [List.length_append, List.length_cons, List.length_nil, bytL_len]; omega)] at B10
      refine ks_ret rfl dX3_writeKey_132 ?_
      have s0 : ∀ q, q ∈ [16, 18, 19] → q ∈ [16, 18, 19, a, b] := by intro q hq; simp only [List.mem_cons, List.not_mem_nil, or_false] at hq ⊢; omega
      have s1 : ∀ q, q ∈ [a, b] → q ∈ [16, 18, 19, a, b] := by intro q hq; simp only [List.mem_cons, List.not_mem_nil, or_false] at hq ⊢; omega
      refine ⟨rfl, (uu.mono s0).trans ((u9.mono s1).trans (u10.mono s1)), I10, v4, v6, af, ?_⟩
      have e9 : m ++ keyL false v4 v6 = m ++ [2 + v6 % 2] ++ bytL F 0 32 := by
        unfold keyL
        rw [if_neg (by decide), if_neg (by decide), List.append_nil, List.append_assoc]
        congr 2
        exact bytL_congr (fun k hk => by rw [Nat.zero_add]; exact (g1 k hk).symm)
      rw [e9]
      exact B10
    · exact absurd h2 (by decide)
  · subst h1
    refine ks_ldc2 dX3_writeKey_90 kx_1215 rfl ?_
    refine ks_tl (y := lN 4) rfl ?_
    refine ks_goto (tgt := 108) dX3_writeKey_93 (by decide) ?_
    refine ks_iconst (x := nI 1) dX3_writeKey_108 (by decide) rfl ?_
    obtain ⟨l8, g8, i8, j8, k8, ob8, m8⟩ := id B8
    refine ks_callV (n := 2) (M' := mX1_addNumber) (bf_number (d := d + 3) (v := lN (4)) (sz := 1) B8 hN (by decide)) ob8 cl_X1 rfl kx_1216 kx_829 kx_830 kx_2 kx_831 (by decide +kernel) rfl (by decide) (Nat.le_of_ble_eq_true rfl) rfl dX3_writeKey_109 rfl (fun z9 T9 y9 => ?_)
    obtain ⟨rfl, u9, B9⟩ := y9
    have O9 := u9.at O8 (by simp only [List.mem_cons, List.not_mem_nil, or_false]; omega)
    have W9 := u9.at W8 (by simp only [List.mem_cons, List.not_mem_nil, or_false]; omega)
    have I9 := I8.up u9 (by intro q hq; simp only [List.mem_cons, List.not_mem_nil, or_false] at hq; omega)
    rw [num1 (by omega), bfA_fit (by simp only [List.length_cons, List.length_nil]; omega)] at B9
    refine ks_aload_n dX3_writeKey_112 rfl rfl ?_
    refine ks_aload_n dX3_writeKey_113 rfl rfl ?_
    refine ks_getf (T := TX3) (kf := 2) kx_537 rfl in_X3 cl_X3 (by decide) O9 rfl dX3_writeKey_114 rfl ?_
    refine ks_iconst (x := nI 0) dX3_writeKey_117 (by decide) rfl ?_
    refine ks_iload_n dX3_writeKey_118 rfl rfl ?_
    refine ks_if_eqZ (tgt := 127) dX3_writeKey_119 (by decide) rfl (fun h2 => ?_) (fun h2 => ?_)
    · exact absurd h2 (by decide)
    · refine ks_bipush (x := nI 64) dX3_writeKey_122 (by decide) rfl ?_
      refine ks_goto (tgt := 129) dX3_writeKey_124 (by decide) ?_
      obtain ⟨l9, g9, i9, j9, k9, ob9, m9⟩ := id B9
      refine ks_callV (n := 3) (M' := mX1_addBytes) (bf_bytes (d := d + 2) (i := 0) (n := 64) B9 hN W9 kF8 (by decide) (by decide)) ob9 cl_X1 rfl kx_1217 kx_872 kx_873 kx_2 kx_874 (by decide +kernel) rfl (by decide) (Nat.le_of_ble_eq_true rfl) rfl dX3_writeKey_129 rfl (fun z10 T10 y10 => ?_)
      obtain ⟨rfl, u10, B10⟩ := y10
      have O10 := u10.at O9 (by simp only [List.mem_cons, List.not_mem_nil, or_false]; omega)
      have W10 := u10.at W9 (by simp only [List.mem_cons, List.not_mem_nil, or_false]; omega)
      have I10 := I9.up u10 (by intro q hq; simp only [List.mem_cons, List.not_mem_nil, or_false] at hq; omega)
      rw [bfA_fit (by simp only [List.length_append, List.length_cons, List.length_nil, bytL_len]; omega)] at B10
      refine ks_ret rfl dX3_writeKey_132 ?_
      have s0 : ∀ q, q ∈ [16, 18, 19] → q ∈ [16, 18, 19, a, b] := by intro q hq; simp only [List.mem_cons, List.not_mem_nil, or_false] at hq ⊢; omega
      have s1 : ∀ q, q ∈ [a, b] → q ∈ [16, 18, 19, a, b] := by intro q hq; simp only [List.mem_cons, List.not_mem_nil, or_false] at hq ⊢; omega
      refine ⟨rfl, (uu.mono s0).trans ((u9.mono s1).trans (u10.mono s1)), I10, v4, v6, af, ?_⟩
      have e9 : m ++ keyL true v4 v6 = m ++ [4] ++ bytL F 0 64 := by
        unfold keyL
        rw [if_pos rfl, if_pos rfl, List.append_assoc, List.append_assoc]
        congr 2
        rw [show bytL F 0 64 = bytL F 0 32 ++ bytL F 32 32 from bytL_split F 0 32 32]
        congr 1
        · exact bytL_congr (fun k hk => by rw [Nat.zero_add]; exact (g1 k hk).symm)
        · exact (bytL_ext.mpr ⟨rfl, fun k hk => by rw [g2 k hk, Nat.zero_add]⟩).symm
      rw [e9]
      exact B10
