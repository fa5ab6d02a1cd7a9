/-! THE REFERENCE: connect, its other loops -/
theorem rcnS.ul {S S1 : ks_S} {V V1 : Nat → Value} {F F1 n : Nat} {B : Nat → Bk} {Gp : Pt} {R : List Nat} (h : rcnS S V F n B Gp R) (hu : ulK S S1 V V1 F F1) (hB : mqB S1 V1 F1 Gp) : rcnS S1 V1 F1 n B Gp R := by
  obtain ⟨h1, h2, h3, ⟨f, h4, h5⟩, h6, h7⟩ := h
  obtain ⟨xs, ys, vs, o1, -⟩ := id hB
  exact ⟨o1, hB, h3.sf hu.1 (by decide), ⟨f, hu.1.at h4 (by decide), h5⟩, (hu.2 _ (by decide)).trans h6, h7⟩
theorem mqB.ob2 {S S1 : ks_S} {V V1 : Nat → Value} {F : Nat} {Gp : Pt} {f g : Nat → Nat} (h : mqB S V F Gp) (hu : ks_up S S1 [290, 343]) (o1 : S1.2.2 290 = some (rfE V1)) (e0 : S.2.2 343 = some (kN 2300 f)) (e1 : S1.2.2 343 = some (kN 2300 g)) (hv : ∀ j ∈ ([67, 70, 73, 87, 88, 89, 91] : List Nat), V1 j = V j) : mqB S1 V1 F Gp := by
  obtain ⟨xs, ys, vs, hO, hK, ⟨⟨m1, g5, k5, m2⟩, ⟨g6, k6, m3⟩, ⟨X, m4⟩, ⟨c, m5⟩, m6⟩, hh, h369, hlow, dn, h368⟩ := h
  refine ⟨xs, ys, vs, o1, (hK.up hu (by decide) (fun x hx => ?_)).val ⟨hv _ (by decide), hv _ (by decide), hv _ (by decide)⟩, ⟨⟨m1.up hu (by decide), g5, k5, hu.at m2 (by decide)⟩, ⟨g6, k6, hu.at m3 (by decide)⟩, ⟨X, m4.up hu (by decide) (hv _ (by decide))⟩, ⟨c, m5.up hu (by decide) ⟨hv _ (by decide), hv _ (by decide), hv _ (by decide)⟩⟩, m6.up hu (by decide)⟩, hh.sf (sfK.of (F := 0) hu) (by decide), hu.at h369 (by decide), hlow.sf (sfK.of (F := 0) hu) (fun x hx => ?_), dn, hu.at h368 (by decide)⟩
  · simp only [List.mem_cons, List.not_mem_nil, or_false] at hx
    rcases hx with rfl | rfl
    · exact ⟨_, hO, fun g h => by cases h⟩
    · exact ⟨_, e0, fun g h => by cases h⟩
  · simp only [List.mem_cons, List.not_mem_nil, or_false] at hx
    rcases hx with rfl | rfl
    · exact ⟨_, o1, fun g h => by cases h⟩
    · exact ⟨_, e1, fun g h => by cases h⟩
theorem rcnS.wr {S S1 : ks_S} {V V1 : Nat → Value} {F n : Nat} {B : Nat → Bk} {Gp : Pt} {R R2 : List Nat} {g : Nat → Nat} (h : rcnS S V F n B Gp R) (hu : ks_up S S1 [290, 343]) (o1 : S1.2.2 290 = some (rfE V1)) (hv : ∀ j, j ≠ 52 → V1 j = V j) (e1 : S1.2.2 343 = some (kN 2300 g)) (hg : ∀ j, j < R2.length → g j = R2.getD j 0) (v52 : V1 52 = .int (nI R2.length)) (hl : R2.length ≤ 2300) (hm : ∀ x ∈ R2, rmK n B x) : rcnS S1 V1 F n B Gp R2 := by
  obtain ⟨h1, h2, h3, ⟨f, h4, h5⟩, h6, h7⟩ := h
  exact ⟨o1, h2.ob2 hu o1 h4 e1 (fun j hj => hv j (fun q => absurd (q ▸ hj) (by decide))), h3.up hu (by decide), ⟨g, e1, hg⟩, v52, hl, hm⟩
theorem cnK.wr {S S1 : ks_S} {V V1 : Nat → Value} {F : Nat} (hu : ks_up S S1 [290, 343]) (hv : ∀ j, j ≠ 52 → V1 j = V j) : cnK S S1 V V1 F F := ⟨(sfK.of hu).mono (by decide), fun j hj => hv j (fun q => hj (by rw [q]; decide))⟩
/-- a coin is taken: the last comes into its place -/
def rmA (R : List Nat) (q : Nat) : List Nat := (R.set q (R.getD (R.length - 1) 0)).take (R.length - 1)
def tkR (B : Nat → Bk) (M : List Nat) (t : Nat) : Nat → Nat → List Nat → List Nat
  | 0, _, R => R
  | u + 1, i, R => tkR B M t u (i + 1) (rmA R (fiR B M t R i - 1))
def tkK (B : Nat → Bk) (M : List Nat) (t : Nat) : Nat → Nat → List Nat → Prop
  | 0, _, _ => True
  | u + 1, i, R => fiR B M t R i ≠ 0 ∧ tkK B M t u (i + 1) (rmA R (fiR B M t R i - 1))
def mkN (b t o : Nat) : Nat := (b * 12 + t) * 256 + o
def radR (B : Nat → Bk) (b t : Nat) : Nat → Nat → List Nat → List Nat
  | 0, _, R => R
  | u + 1, o, R => radR B b t u (o + 1) (if plR B o (fun j => idB (bkM (B b)) t j) R = 0 then R ++ [mkN b t o] else R.set (plR B o (fun j => idB (bkM (B b)) t j) R - 1) (mkN b t o))
theorem rmA_mem {R : List Nat} {q x : Nat} (h0 : 0 < R.length) (h : x ∈ rmA R q) : x ∈ R := by
  rcases List.mem_or_eq_of_mem_set (List.mem_of_mem_take h) with h | h
  · exact h
  · rw [h]; exact getD_mem (by omega)
theorem rmA_len {R : List Nat} {q : Nat} : (rmA R q).length = R.length - 1 := by unfold rmA; rw [List.length_take, List.length_set]; omega
theorem rmA_at {R : List Nat} {q j : Nat} (hq : q < R.length) (hj : j < R.length - 1) : (rmA R q).getD j 0 = if j = q then R.getD (R.length - 1) 0 else R.getD j 0 := by
  have e : (rmA R q).getD j 0 = (R.set q (R.getD (R.length - 1) 0)).getD j 0 := by
    unfold rmA
    obtain ⟨Z, eZ⟩ : ∃ Z, Z = R.set q (R.getD (R.length - 1) 0) := ⟨_, rfl⟩
    rw [← eZ, List.getD_eq_getElem?_getD, List.getD_eq_getElem?_getD, List.getElem?_take_of_lt (by omega)]
  rw [e, L_set hq]
theorem mkN_K {n : Nat} {B : Nat → Bk} {b t o : Nat} (hb : b < n) (ht : t < mg (bkM (B b)) 80) (h12 : mg (bkM (B b)) 80 ≤ 12) (ho : o < (txP (bkM (B b)) t).2.2.1) (h180 : (txP (bkM (B b)) t).2.2.1 ≤ 180) : rmK n B (mkN b t o) := by
  have e1 : mkN b t o / 3072 = b := by unfold mkN; omega
  have e2 : mkN b t o / 256 % 12 = t := by unfold mkN; omega
  have e3 : mkN b t o % 256 = o := by unfold mkN; omega
  unfold rmK
  rw [e1, e2, e3]
  exact ⟨hb, ht, ho⟩
set_option maxRecDepth 100000 in
set_option maxHeartbeats 800000 in
theorem l_cnOut {l : Launch} {G : ks_G} {d : Nat} {S : ks_S} {V : Nat → Value} {F n b : Nat} {B : Nat → Bk} {Gp : Pt} {R : List Nat} (hI : rcnS S V F n B Gp R) (hb : b < n) {t fe s : Nat} (ht : t < mg (bkM (B b)) 80) {P9 : Option Value → ks_S → Prop} (hk : ∀ (S2 : ks_S) (V2 : Nat → Value), skK S S2 V V2 → ks_X l G mX16_connect (d + 13) 227 [(0, .ref 290), (1, .int (nI b)), (2, .ref (bkN (B b))), (3, .ref ((bkN (B b)) + 3)), (4, .long (lN fe)), (6, .int (nI t)), (7, .long (lN s)), (9, .long (lN (vaM (bkM (B b)) t)))] [] S2 P9) : ∀ (f9 oi : Nat) (S1 : ks_S) (V1 : Nat → Value), oi + f9 = (txP (bkM (B b)) t).2.2.1 → skK S S1 V V1 → ks_X l G mX16_connect (d + 13) 185 [(0, .ref 290), (1, .int (nI b)), (2, .ref (bkN (B b))), (3, .ref ((bkN (B b)) + 3)), (4, .long (lN fe)), (6, .int (nI t)), (7, .long (lN s)), (9, .long (lN (sum_ (val_ (mg (bkM (B b))) (bkM (B b)).length (txP (bkM (B b)) t).2.2.2.1) oi))), (11, .int (nI oi))] [] S1 P9 := by
  intro f9
  induction f9 with
  | zero =>
    intro oi S1 V1 hi sk
    have C1 := hI.sk sk
    obtain ⟨o1, mb1, rb1, ⟨f1, e3431, hf1⟩, v521, hRl1, hm1⟩ := id C1
    obtain ⟨⟨bf1, h3411, hbf1⟩, hBB1, hn611⟩ := id rb1
    obtain ⟨ob1, pd1, -, -, bd1⟩ := hBB1 b hb
    obtain ⟨g1, A1, gi1, ⟨ey1, kg1⟩, ⟨hMN1, hN161, hPB1, hP61, hy61⟩, hg1, hbl1, X1, hA1⟩ := id pd1
    have r31 : S1.2.2 (((bkN (B b)) + 3) + 4) = some (kN 12 (A1 3)) := X1.2.1 3 (by decide)
    have cnt := (blk_b hbl1).2
    have tx6 := bk_tx5 hbl1 ht
    have bd9 := tx_bd tx6
    refine ks_iload dX16_connect_185 rfl rfl ?_
    refine ks_aload_n dX16_connect_187 rfl rfl ?_
    refine ks_getN (T := TX13) (kf := 5) kx_1822 rfl in_X13 cl_X13 (by decide) X1.1 rfl dX16_connect_188 rfl ?_
    refine ks_iload dX16_connect_191 rfl rfl ?_
    refine ks_ialdN (i := t) r31 rfl (by omega) (by decide) dX16_connect_193 rfl ?_
    rw [show A1 3 t = (txP (bkM (B b)) t).2.2.1 from (hA1 t ht).2.1.2]
    refine ks_icmp_geN (tgt := 227) (by omega) (by omega) dX16_connect_194 (by decide) rfl (fun h1 => ?_) (fun h1 => absurd h1 (by omega))
    obtain rfl : oi = (txP (bkM (B b)) t).2.2.1 := hi
    exact ks_sub [(0, _), (1, _), (2, _), (3, _), (4, _), (6, _), (7, _), (9, _)] rfl (hk S1 V1 sk)
  | succ f9 ih =>
    intro oi S1 V1 hi sk
    have C1 := hI.sk sk
    obtain ⟨o1, mb1, rb1, ⟨f1, e3431, hf1⟩, v521, hRl1, hm1⟩ := id C1
    obtain ⟨⟨bf1, h3411, hbf1⟩, hBB1, hn611⟩ := id rb1
    obtain ⟨ob1, pd1, -, -, bd1⟩ := hBB1 b hb
    obtain ⟨g1, A1, gi1, ⟨ey1, kg1⟩, ⟨hMN1, hN161, hPB1, hP61, hy61⟩, hg1, hbl1, X1, hA1⟩ := id pd1
    have r31 : S1.2.2 (((bkN (B b)) + 3) + 4) = some (kN 12 (A1 3)) := X1.2.1 3 (by decide)
    have cnt := (blk_b hbl1).2
    have tx6 := bk_tx5 hbl1 ht
    have bd9 := tx_bd tx6
    refine ks_iload dX16_connect_185 rfl rfl ?_
    refine ks_aload_n dX16_connect_187 rfl rfl ?_
    refine ks_getN (T := TX13) (kf := 5) kx_1822 rfl in_X13 cl_X13 (by decide) X1.1 rfl dX16_connect_188 rfl ?_
    refine ks_iload dX16_connect_191 rfl rfl ?_
    refine ks_ialdN (i := t) r31 rfl (by omega) (by decide) dX16_connect_193 rfl ?_
    rw [show A1 3 t = (txP (bkM (B b)) t).2.2.1 from (hA1 t ht).2.1.2]
    refine ks_icmp_geN (tgt := 227) (by omega) (by omega) dX16_connect_194 (by decide) rfl (fun h1 => absurd h1 (by omega)) (fun h1 => ?_)
    refine ks_lload dX16_connect_197 rfl rfl ?_
    refine ks_aload_n dX16_connect_199 rfl rfl ?_
    refine ks_aload_n dX16_connect_200 rfl rfl ?_
    refine ks_getN (T := TX13) (kf := 0) kx_1813 rfl in_X13 cl_X13 (by decide) X1.1 rfl dX16_connect_201 rfl ?_
    refine ks_aload_n dX16_connect_204 rfl rfl ?_
    refine ks_aload_n dX16_connect_205 rfl rfl ?_
    refine ks_iload dX16_connect_206 rfl rfl ?_
    refine ks_iload dX16_connect_208 rfl rfl ?_
    have zb := tx_out tx6 oi (by omega)
    refine ks_callV (n := 3) (M' := mX16_output) (c_pd_output (d := d + 10) o1 pd1 ht (i := oi) (by omega)) o1 cl_X16 rfl kx_2141 kx_2143 kxp_82 kx_30 kx_2144 (by decide +kernel) rfl (by decide) (Nat.le_of_ble_eq_true rfl) rfl dX16_connect_210 rfl (fun z2 S2 y2 => ?_)
    obtain ⟨rfl, V2, sk2⟩ := y2
    have C2 := C1.sk sk2
    obtain ⟨o2, mb2, rb2, ⟨f2, e3432, hf2⟩, v522, hRl2, hm2⟩ := id C2
    obtain ⟨⟨bf2, h3412, hbf2⟩, hBB2, hn612⟩ := id rb2
    obtain ⟨ob2, pd2, -, -, bd2⟩ := hBB2 b hb
    obtain ⟨g2, A2, gi2, ⟨ey2, kg2⟩, ⟨hMN2, hN162, hPB2, hP62, hy62⟩, hg2, hbl2, X2, hA2⟩ := id pd2
    refine ks_bipush (x := nI 8) dX16_connect_213 (by decide) rfl ?_
    refine ks_callV (n := 3) (M' := mX16_number) (c_pd_num (d := d + 12) pd2 (i := oA (mg (bkM (B b))) (bkM (B b)).length (txP (bkM (B b)) t).2.2.2.1 oi) (k := 8) (by omega) (by decide)) o2 cl_X16 rfl kx_2020 kx_2022 kxp_68 kx_30 kx_2023 (by decide +kernel) rfl (by decide) (Nat.le_of_ble_eq_true rfl) rfl dX16_connect_215 rfl (fun z3 S3 y3 => ?_)
    obtain ⟨rfl, hT3⟩ := y3
    obtain rfl := hT3.symm
    refine ks_laddN dX16_connect_218 rfl ?_
    refine ks_lstore dX16_connect_219 (by decide) rfl ?_
    refine ks_sub [(9, _), (0, _), (1, _), (2, _), (3, _), (4, _), (6, _), (7, _), (11, _)] rfl ?_
    refine ks_incN (c := 1) (e := oi + 1) dX16_connect_221 rfl (by decide) rfl (by decide) rfl ?_
    refine ks_sub [(11, _), (0, _), (1, _), (2, _), (3, _), (4, _), (6, _), (7, _), (9, _)] rfl ?_
    refine ks_goto (tgt := 185) dX16_connect_224 (by decide) ?_
    exact ks_sub [(0, _), (1, _), (2, _), (3, _), (4, _), (6, _), (7, _), (9, _), (11, _)] rfl (ih (oi + 1) S2 V2 (by omega) (sk.trans sk2))
set_option maxRecDepth 100000 in
set_option maxHeartbeats 800000 in
theorem l_cnPaid {l : Launch} {G : ks_G} {d : Nat} {S : ks_S} {V : Nat → Value} {F n b : Nat} {B : Nat → Bk} {Gp : Pt} {R : List Nat} (hI : rcnS S V F n B Gp R) (hb : b < n) {t fe s : Nat} (ht : 0 < mg (bkM (B b)) 80) {P9 : Option Value → ks_S → Prop} (hk : ∀ (S2 : ks_S) (V2 : Nat → Value), skK S S2 V V2 → ks_X l G mX16_connect (d + 13) 531 [(0, .ref 290), (1, .int (nI b)), (2, .ref (bkN (B b))), (3, .ref ((bkN (B b)) + 3)), (4, .long (lN fe)), (6, .long (lN (vaM (bkM (B b)) 0)))] [] S2 P9) : ∀ (f9 oi : Nat) (S1 : ks_S) (V1 : Nat → Value), oi + f9 = (txP (bkM (B b)) 0).2.2.1 → skK S S1 V V1 → ks_X l G mX16_connect (d + 13) 491 [(0, .ref 290), (1, .int (nI b)), (2, .ref (bkN (B b))), (3, .ref ((bkN (B b)) + 3)), (4, .long (lN fe)), (6, .long (lN (sum_ (val_ (mg (bkM (B b))) (bkM (B b)).length (txP (bkM (B b)) 0).2.2.2.1) oi))), (8, .int (nI oi))] [] S1 P9 := by
  intro f9
  induction f9 with
  | zero =>
    intro oi S1 V1 hi sk
    have C1 := hI.sk sk
    obtain ⟨o1, mb1, rb1, ⟨f1, e3431, hf1⟩, v521, hRl1, hm1⟩ := id C1
    obtain ⟨⟨bf1, h3411, hbf1⟩, hBB1, hn611⟩ := id rb1
    obtain ⟨ob1, pd1, -, -, bd1⟩ := hBB1 b hb
    obtain ⟨g1, A1, gi1, ⟨ey1, kg1⟩, ⟨hMN1, hN161, hPB1, hP61, hy61⟩, hg1, hbl1, X1, hA1⟩ := id pd1
    have r31 : S1.2.2 (((bkN (B b)) + 3) + 4) = some (kN 12 (A1 3)) := X1.2.1 3 (by decide)
    have cnt := (blk_b hbl1).2
    have tx6 := bk_tx5 hbl1 ht
    have bd9 := tx_bd tx6
    refine ks_iload dX16_connect_491 rfl rfl ?_
    refine ks_aload_n dX16_connect_493 rfl rfl ?_
    refine ks_getN (T := TX13) (kf := 5) kx_1822 rfl in_X13 cl_X13 (by decide) X1.1 rfl dX16_connect_494 rfl ?_
    refine ks_iconst (x := nI 0) dX16_connect_497 (by decide) rfl ?_
    refine ks_ialdN (i := 0) r31 rfl (by decide) (by decide) dX16_connect_498 rfl ?_
    rw [show A1 3 0 = (txP (bkM (B b)) 0).2.2.1 from (hA1 0 ht).2.1.2]
    refine ks_icmp_geN (tgt := 531) (by omega) (by omega) dX16_connect_499 (by decide) rfl (fun h1 => ?_) (fun h1 => absurd h1 (by omega))
    obtain rfl : oi = (txP (bkM (B b)) 0).2.2.1 := hi
    exact ks_sub [(0, _), (1, _), (2, _), (3, _), (4, _), (6, _)] rfl (hk S1 V1 sk)
  | succ f9 ih =>
    intro oi S1 V1 hi sk
    have C1 := hI.sk sk
    obtain ⟨o1, mb1, rb1, ⟨f1, e3431, hf1⟩, v521, hRl1, hm1⟩ := id C1
    obtain ⟨⟨bf1, h3411, hbf1⟩, hBB1, hn611⟩ := id rb1
    obtain ⟨ob1, pd1, -, -, bd1⟩ := hBB1 b hb
    obtain ⟨g1, A1, gi1, ⟨ey1, kg1⟩, ⟨hMN1, hN161, hPB1, hP61, hy61⟩, hg1, hbl1, X1, hA1⟩ := id pd1
    have r31 : S1.2.2 (((bkN (B b)) + 3) + 4) = some (kN 12 (A1 3)) := X1.2.1 3 (by decide)
    have cnt := (blk_b hbl1).2
    have tx6 := bk_tx5 hbl1 ht
    have bd9 := tx_bd tx6
    refine ks_iload dX16_connect_491 rfl rfl ?_
    refine ks_aload_n dX16_connect_493 rfl rfl ?_
    refine ks_getN (T := TX13) (kf := 5) kx_1822 rfl in_X13 cl_X13 (by decide) X1.1 rfl dX16_connect_494 rfl ?_
    refine ks_iconst (x := nI 0) dX16_connect_497 (by decide) rfl ?_
    refine ks_ialdN (i := 0) r31 rfl (by decide) (by decide) dX16_connect_498 rfl ?_
    rw [show A1 3 0 = (txP (bkM (B b)) 0).2.2.1 from (hA1 0 ht).2.1.2]
    refine ks_icmp_geN (tgt := 531) (by omega) (by omega) dX16_connect_499 (by decide) rfl (fun h1 => absurd h1 (by omega)) (fun h1 => ?_)
    refine ks_lload dX16_connect_502 rfl rfl ?_
    refine ks_aload_n dX16_connect_504 rfl rfl ?_
    refine ks_aload_n dX16_connect_505 rfl rfl ?_
    refine ks_getN (T := TX13) (kf := 0) kx_1813 rfl in_X13 cl_X13 (by decide) X1.1 rfl dX16_connect_506 rfl ?_
    refine ks_aload_n dX16_connect_509 rfl rfl ?_
    refine ks_aload_n dX16_connect_510 rfl rfl ?_
    refine ks_iconst (x := nI 0) dX16_connect_511 (by decide) rfl ?_
    refine ks_iload dX16_connect_512 rfl rfl ?_
    have zb := tx_out tx6 oi (by omega)
    refine ks_callV (n := 3) (M' := mX16_output) (c_pd_output (d := d + 10) o1 pd1 ht (i := oi) (by omega)) o1 cl_X16 rfl kx_2141 kx_2143 kxp_82 kx_30 kx_2144 (by decide +kernel) rfl (by decide) (Nat.le_of_ble_eq_true rfl) rfl dX16_connect_514 rfl (fun z2 S2 y2 => ?_)
    obtain ⟨rfl, V2, sk2⟩ := y2
    have C2 := C1.sk sk2
    obtain ⟨o2, mb2, rb2, ⟨f2, e3432, hf2⟩, v522, hRl2, hm2⟩ := id C2
    obtain ⟨⟨bf2, h3412, hbf2⟩, hBB2, hn612⟩ := id rb2
    obtain ⟨ob2, pd2, -, -, bd2⟩ := hBB2 b hb
    obtain ⟨g2, A2, gi2, ⟨ey2, kg2⟩, ⟨hMN2, hN162, hPB2, hP62, hy62⟩, hg2, hbl2, X2, hA2⟩ := id pd2
    refine ks_bipush (x := nI 8) dX16_connect_517 (by decide) rfl ?_
    refine ks_callV (n := 3) (M' := mX16_number) (c_pd_num (d := d + 12) pd2 (i := oA (mg (bkM (B b))) (bkM (B b)).length (txP (bkM (B b)) 0).2.2.2.1 oi) (k := 8) (by omega) (by decide)) o2 cl_X16 rfl kx_2020 kx_2022 kxp_68 kx_30 kx_2023 (by decide +kernel) rfl (by decide) (Nat.le_of_ble_eq_true rfl) rfl dX16_connect_519 rfl (fun z3 S3 y3 => ?_)
    obtain ⟨rfl, hT3⟩ := y3
    obtain rfl := hT3.symm
    refine ks_laddN dX16_connect_522 rfl ?_
    refine ks_lstore dX16_connect_523 (by decide) rfl ?_
    refine ks_sub [(6, _), (0, _), (1, _), (2, _), (3, _), (4, _), (8, _)] rfl ?_
    refine ks_incN (c := 1) (e := oi + 1) dX16_connect_525 rfl (by decide) rfl (by decide) rfl ?_
    refine ks_sub [(8, _), (0, _), (1, _), (2, _), (3, _), (4, _), (6, _)] rfl ?_
    refine ks_goto (tgt := 491) dX16_connect_528 (by decide) ?_
    exact ks_sub [(0, _), (1, _), (2, _), (3, _), (4, _), (6, _), (8, _)] rfl (ih (oi + 1) S2 V2 (by omega) (sk.trans sk2))
set_option maxRecDepth 100000 in
set_option maxHeartbeats 800000 in
theorem l_cnUk {l : Launch} {G : ks_G} {d : Nat} {S : ks_S} {V : Nat → Value} {F n b : Nat} {B : Nat → Bk} {Gp : Pt} {R : List Nat} (hI : rcnS S V F n B Gp R) (hb : b < n) {t fe : Nat} (ht : t < mg (bkM (B b)) 80) (hck : (bkC (B b)).isSome = false) (hq : ∀ i, i < (txP (bkM (B b)) t).1 → fiR B (bkM (B b)) t R i ≠ 0) {P9 : Option Value → ks_S → Prop} (hk : ∀ (S2 : ks_S) (V2 : Nat → Value) (F2 : Nat), cnK S S2 V V2 F F2 → rcnS S2 V2 F2 n B Gp R → (∀ i, i < (txP (bkM (B b)) t).1 → ukR Gp B (bkM (B b)) t i (R.getD (fiR B (bkM (B b)) t R i - 1) 0) = true) → ks_X l G mX16_connect (d + 13) 291 [(0, .ref 290), (1, .int (nI b)), (2, .ref (bkN (B b))), (3, .ref ((bkN (B b)) + 3)), (4, .long (lN fe)), (6, .int (nI t))] [] S2 P9) (hno : ∀ (S2 : ks_S) (V2 : Nat → Value) (F2 : Nat), cnK S S2 V V2 F F2 → rcnS S2 V2 F2 n B Gp R → (∃ i, i < (txP (bkM (B b)) t).1 ∧ ukR Gp B (bkM (B b)) t i (R.getD (fiR B (bkM (B b)) t R i - 1) 0) = false) → P9 (some (.int (nI 14))) S2) : ∀ (f9 i : Nat) (S1 : ks_S) (V1 : Nat → Value) (F1 : Nat), i + f9 = (txP (bkM (B b)) t).1 → cnK S S1 V V1 F F1 → rcnS S1 V1 F1 n B Gp R → (∀ j, j < i → ukR Gp B (bkM (B b)) t j (R.getD (fiR B (bkM (B b)) t R j - 1) 0) = true) → ks_X l G mX16_connect (d + 13) 251 [(0, .ref 290), (1, .int (nI b)), (2, .ref (bkN (B b))), (3, .ref ((bkN (B b)) + 3)), (4, .long (lN fe)), (6, .int (nI t)), (11, .int (nI i))] [] S1 P9 := by
  intro f9
  induction f9 with
  | zero =>
    intro i S1 V1 F1 hi K1 C1 hal
    obtain ⟨o1, mb1, rb1, ⟨f1, e3431, hf1⟩, v521, hRl1, hm1⟩ := id C1
    obtain ⟨⟨bf1, h3411, hbf1⟩, hBB1, hn611⟩ := id rb1
    obtain ⟨ob1, pd1, -, -, bd1⟩ := hBB1 b hb
    obtain ⟨g1, A1, gi1, ⟨ey1, kg1⟩, ⟨hMN1, hN161, hPB1, hP61, hy61⟩, hg1, hbl1, X1, hA1⟩ := id pd1
    have r21 : S1.2.2 (((bkN (B b)) + 3) + 3) = some (kN 12 (A1 2)) := X1.2.1 2 (by decide)
    have cnt := (blk_b hbl1).2
    have tx6 := bk_tx5 hbl1 ht
    have bd9 := tx_bd tx6
    refine ks_iload dX16_connect_251 rfl rfl ?_
    refine ks_aload_n dX16_connect_253 rfl rfl ?_
    refine ks_getN (T := TX13) (kf := 4) kx_1820 rfl in_X13 cl_X13 (by decide) X1.1 rfl dX16_connect_254 rfl ?_
    refine ks_iload dX16_connect_257 rfl rfl ?_
    refine ks_ialdN (i := t) r21 rfl (by omega) (by decide) dX16_connect_259 rfl ?_
    rw [show A1 2 t = (txP (bkM (B b)) t).1 from (hA1 t ht).2.1.1]
    refine ks_icmp_geN (tgt := 291) (by omega) (by omega) dX16_connect_260 (by decide) rfl (fun h1 => ?_) (fun h1 => absurd h1 (by omega))
    exact ks_sub [(0, _), (1, _), (2, _), (3, _), (4, _), (6, _)] rfl (hk S1 V1 F1 K1 C1 (fun j hj => hal j (by omega)))
  | succ f9 ih =>
    intro i S1 V1 F1 hi K1 C1 hal
    obtain ⟨o1, mb1, rb1, ⟨f1, e3431, hf1⟩, v521, hRl1, hm1⟩ := id C1
    obtain ⟨⟨bf1, h3411, hbf1⟩, hBB1, hn611⟩ := id rb1
    obtain ⟨ob1, pd1, -, -, bd1⟩ := hBB1 b hb
    obtain ⟨g1, A1, gi1, ⟨ey1, kg1⟩, ⟨hMN1, hN161, hPB1, hP61, hy61⟩, hg1, hbl1, X1, hA1⟩ := id pd1
    have r21 : S1.2.2 (((bkN (B b)) + 3) + 3) = some (kN 12 (A1 2)) := X1.2.1 2 (by decide)
    have cnt := (blk_b hbl1).2
    have tx6 := bk_tx5 hbl1 ht
    have bd9 := tx_bd tx6
    refine ks_iload dX16_connect_251 rfl rfl ?_
    refine ks_aload_n dX16_connect_253 rfl rfl ?_
    refine ks_getN (T := TX13) (kf := 4) kx_1820 rfl in_X13 cl_X13 (by decide) X1.1 rfl dX16_connect_254 rfl ?_
    refine ks_iload dX16_connect_257 rfl rfl ?_
    refine ks_ialdN (i := t) r21 rfl (by omega) (by decide) dX16_connect_259 rfl ?_
    rw [show A1 2 t = (txP (bkM (B b)) t).1 from (hA1 t ht).2.1.1]
    refine ks_icmp_geN (tgt := 291) (by omega) (by omega) dX16_connect_260 (by decide) rfl (fun h1 => absurd h1 (by omega)) (fun h1 => ?_)
    obtain ⟨q, eq⟩ : ∃ q, fiR B (bkM (B b)) t R i = q + 1 := ⟨fiR B (bkM (B b)) t R i - 1, by have := hq i (by omega); omega⟩
    refine ks_aload_n dX16_connect_263 rfl rfl ?_
    refine ks_getN (T := TX12) (kf := 7) kx_2067 rfl in_X12 cl_X12 (by decide) ob1 rfl dX16_connect_264 rfl ?_
    refine ks_if_neZ (tgt := 291) dX16_connect_267 (by decide) rfl (fun h2 => ?_) (fun h2 => ?_)
    · exact absurd h2 (by rw [hck]; decide)
    · refine ks_aload_n dX16_connect_270 rfl rfl ?_
      refine ks_aload_n dX16_connect_271 rfl rfl ?_
      refine ks_iload dX16_connect_272 rfl rfl ?_
      refine ks_iload dX16_connect_274 rfl rfl ?_
      refine ks_callV (n := 3) (M' := mX16_unlocks) (c_rs_unlocks (d := d) o1 mb1 rb1 pd1 ⟨by omega, by omega⟩ ht (i := i) (q := q) (by omega) e3431 v521 hRl1 hf1 hm1 eq) o1 cl_X16 rfl kx_2146 kx_2148 kxp_83 kx_30 kx_2149 (by decide +kernel) rfl (by decide) (Nat.le_of_ble_eq_true rfl) rfl dX16_connect_276 rfl (fun z2 S2 y2 => ?_)
      obtain ⟨rfl, V2, F2, u2, b2⟩ := y2
      have C2 := C1.ul u2 b2
      have K2 := K1.trans u2.c
      have eqg : R.getD (fiR B (bkM (B b)) t R i - 1) 0 = R.getD q 0 := by rw [eq, Nat.add_sub_cancel]
      refine ks_if_neZ (tgt := 285) dX16_connect_279 (by decide) rfl (fun h3 => ?_) (fun h3 => ?_)
      · refine ks_incN (c := 1) (e := i + 1) dX16_connect_285 rfl (by decide) rfl (by decide) rfl ?_
        refine ks_sub [(11, _), (0, _), (1, _), (2, _), (3, _), (4, _), (6, _)] rfl ?_
        refine ks_goto (tgt := 251) dX16_connect_288 (by decide) ?_
        exact ks_sub [(0, _), (1, _), (2, _), (3, _), (4, _), (6, _), (11, _)] rfl (ih (i + 1) S2 V2 F2 (by omega) K2 C2 (fun j hj => by
          by_cases e : j = i
          · rw [e, eqg]; exact h3
          · exact hal j (by omega)))
      · refine ks_bipush (x := nI 14) dX16_connect_282 (by decide) rfl ?_
        refine ks_iret rfl dX16_connect_284 ?_
        exact hno S2 V2 F2 K2 C2 ⟨i, by omega, by rw [eqg]; exact h3⟩
set_option maxRecDepth 100000 in
set_option maxHeartbeats 1600000 in
theorem l_cnTk {l : Launch} {G : ks_G} {d : Nat} {S : ks_S} {V : Nat → Value} {F n b : Nat} {B : Nat → Bk} {Gp : Pt} (hb : b < n) {t fe : Nat} (ht : t < mg (bkM (B b)) 80) {P9 : Option Value → ks_S → Prop} : ∀ (f9 i : Nat) (S1 : ks_S) (V1 : Nat → Value) (F1 : Nat) (R : List Nat), i + f9 = (txP (bkM (B b)) t).1 → cnK S S1 V V1 F F1 → rcnS S1 V1 F1 n B Gp R → tkK B (bkM (B b)) t f9 i R → (∀ (S2 : ks_S) (V2 : Nat → Value) (F2 : Nat), cnK S S2 V V2 F F2 → rcnS S2 V2 F2 n B Gp (tkR B (bkM (B b)) t f9 i R) → ks_X l G mX16_connect (d + 13) 383 [(0, .ref 290), (1, .int (nI b)), (2, .ref (bkN (B b))), (3, .ref ((bkN (B b)) + 3)), (4, .long (lN fe)), (6, .int (nI t))] [] S2 P9) → ks_X l G mX16_connect (d + 13) 294 [(0, .ref 290), (1, .int (nI b)), (2, .ref (bkN (B b))), (3, .ref ((bkN (B b)) + 3)), (4, .long (lN fe)), (6, .int (nI t)), (11, .int (nI i))] [] S1 P9 := by
  intro f9
  induction f9 with
  | zero =>
    intro i S1 V1 F1 R hi K1 C1 tk hk
    obtain ⟨o1, mb1, rb1, ⟨f1, e3431, hf1⟩, v521, hRl1, hm1⟩ := id C1
    obtain ⟨⟨bf1, h3411, hbf1⟩, hBB1, hn611⟩ := id rb1
    obtain ⟨ob1, pd1, -, -, bd1⟩ := hBB1 b hb
    obtain ⟨g1, A1, gi1, ⟨ey1, kg1⟩, ⟨hMN1, hN161, hPB1, hP61, hy61⟩, hg1, hbl1, X1, hA1⟩ := id pd1
    have r21 : S1.2.2 (((bkN (B b)) + 3) + 3) = some (kN 12 (A1 2)) := X1.2.1 2 (by decide)
    have cnt := (blk_b hbl1).2
    have tx6 := bk_tx5 hbl1 ht
    have bd9 := tx_bd tx6
    refine ks_iload dX16_connect_294 rfl rfl ?_
    refine ks_aload_n dX16_connect_296 rfl rfl ?_
    refine ks_getN (T := TX13) (kf := 4) kx_1820 rfl in_X13 cl_X13 (by decide) X1.1 rfl dX16_connect_297 rfl ?_
    refine ks_iload dX16_connect_300 rfl rfl ?_
    refine ks_ialdN (i := t) r21 rfl (by omega) (by decide) dX16_connect_302 rfl ?_
    rw [show A1 2 t = (txP (bkM (B b)) t).1 from (hA1 t ht).2.1.1]
    refine ks_icmp_geN (tgt := 383) (by omega) (by omega) dX16_connect_303 (by decide) rfl (fun h1 => ?_) (fun h1 => absurd h1 (by omega))
    exact ks_sub [(0, _), (1, _), (2, _), (3, _), (4, _), (6, _)] rfl (hk S1 V1 F1 K1 C1)
  | succ f9 ih =>
    intro i S1 V1 F1 R hi K1 C1 tk hk
    obtain ⟨o1, mb1, rb1, ⟨f1, e3431, hf1⟩, v521, hRl1, hm1⟩ := id C1
    obtain ⟨⟨bf1, h3411, hbf1⟩, hBB1, hn611⟩ := id rb1
    obtain ⟨ob1, pd1, -, -, bd1⟩ := hBB1 b hb
    obtain ⟨g1, A1, gi1, ⟨ey1, kg1⟩, ⟨hMN1, hN161, hPB1, hP61, hy61⟩, hg1, hbl1, X1, hA1⟩ := id pd1
    have r21 : S1.2.2 (((bkN (B b)) + 3) + 3) = some (kN 12 (A1 2)) := X1.2.1 2 (by decide)
    have cnt := (blk_b hbl1).2
    have tx6 := bk_tx5 hbl1 ht
    have bd9 := tx_bd tx6
    refine ks_iload dX16_connect_294 rfl rfl ?_
    refine ks_aload_n dX16_connect_296 rfl rfl ?_
    refine ks_getN (T := TX13) (kf := 4) kx_1820 rfl in_X13 cl_X13 (by decide) X1.1 rfl dX16_connect_297 rfl ?_
    refine ks_iload dX16_connect_300 rfl rfl ?_
    refine ks_ialdN (i := t) r21 rfl (by omega) (by decide) dX16_connect_302 rfl ?_
    rw [show A1 2 t = (txP (bkM (B b)) t).1 from (hA1 t ht).2.1.1]
    refine ks_icmp_geN (tgt := 383) (by omega) (by omega) dX16_connect_303 (by decide) rfl (fun h1 => absurd h1 (by omega)) (fun h1 => ?_)
    refine ks_aload_n dX16_connect_306 rfl rfl ?_
    refine ks_aload_n dX16_connect_307 rfl rfl ?_
    refine ks_iload dX16_connect_308 rfl rfl ?_
    refine ks_iload dX16_connect_310 rfl rfl ?_
    have hik : i < (txP (bkM (B b)) t).1 := by omega
    have zb := tx_in tx6 i hik
    obtain ⟨ia, eia⟩ : ∃ z, z = inA (bkM (B b)) t i := ⟨_, rfl⟩
    have zi : ia + 41 ≤ (bkM (B b)).length := by rw [eia]; unfold inA; omega
    refine ks_callV (n := 3) (M' := mX16_input) (c_pd_input (d := d + 10) o1 pd1 ht hik) o1 cl_X16 rfl kx_2122 kx_2124 kxp_78 kx_30 kx_2125 (by decide +kernel) rfl (by decide) (Nat.le_of_ble_eq_true rfl) rfl dX16_connect_312 rfl (fun z2 S2 y2 => ?_)
    obtain ⟨rfl, V2, sk2⟩ := y2
    rw [← eia]
    have K2 := K1.trans (sk2.c (F := F1))
    have C2 := C1.sk sk2
    obtain ⟨o2, mb2, rb2, ⟨f2, e3432, hf2⟩, v522, hRl2, hm2⟩ := id C2
    obtain ⟨⟨bf2, h3412, hbf2⟩, hBB2, hn612⟩ := id rb2
    obtain ⟨ob2, pd2, -, -, bd2⟩ := hBB2 b hb
    obtain ⟨g2, A2, gi2, ⟨ey2, kg2⟩, ⟨hMN2, hN162, hPB2, hP62, hy62⟩, hg2, hbl2, X2, hA2⟩ := id pd2
    refine ks_istore dX16_connect_315 (by decide) rfl ?_
    refine ks_sub [(12, _), (0, _), (1, _), (2, _), (3, _), (4, _), (6, _), (11, _)] rfl ?_
    refine ks_aload_n dX16_connect_317 rfl rfl ?_
    refine ks_aload_n dX16_connect_318 rfl rfl ?_
    refine ks_getN (T := TX13) (kf := 0) kx_1813 rfl in_X13 cl_X13 (by decide) X2.1 rfl dX16_connect_319 rfl ?_
    refine ks_iload dX16_connect_322 rfl rfl ?_
    refine ks_aload_n dX16_connect_324 rfl rfl ?_
    refine ks_aload_n dX16_connect_325 rfl rfl ?_
    refine ks_getN (T := TX13) (kf := 0) kx_1813 rfl in_X13 cl_X13 (by decide) X2.1 rfl dX16_connect_326 rfl ?_
    refine ks_iload dX16_connect_329 rfl rfl ?_
    refine ks_bipush (x := nI 32) dX16_connect_331 (by decide) rfl ?_
    refine ks_addN dX16_connect_333 rfl ?_
    refine ks_iconst (x := nI 4) dX16_connect_334 (by decide) rfl ?_
    obtain ⟨ix, eix⟩ : ∃ z, z = ks_num (mg (bkM (B b))) (ia + 32) 4 := ⟨_, rfl⟩
    have ixb := num4_lt pd2.kO (ia + 32)
    rw [← eix] at ixb
    refine ks_callV (n := 3) (M' := mX16_number) (c_pd_num (d := d + 12) pd2 (i := ia + 32) (k := 4) (by omega) (by decide)) o2 cl_X16 rfl kx_2020 kx_2022 kxp_68 kx_30 kx_2023 (by decide +kernel) rfl (by decide) (Nat.le_of_ble_eq_true rfl) rfl dX16_connect_335 rfl (fun z3 S3 y3 => ?_)
    obtain ⟨rfl, hT3⟩ := y3
    obtain rfl := hT3.symm
    rw [← eix]
    refine ks_aload_n dX16_connect_338 rfl rfl ?_
    refine ks_getf (T := TX16) (kf := 51) kx_2419 rfl in_X16 cl_X16 (by decide) o2 rfl dX16_connect_339 rfl ?_
    refine ks_aload_n dX16_connect_342 rfl rfl ?_
    refine ks_getf (T := TX16) (kf := 52) kx_2420 rfl in_X16 cl_X16 (by decide) o2 rfl dX16_connect_343 rfl ?_
    refine ks_tv v522 ?_
    refine ks_callV (n := 5) (M' := mX16_findCoin) (c_md_findCoin (d := d + 11) o2 rb2 ey2 kg2 (a := ia) (ix := ix) (by omega) (by decide) (by omega) e3432 (by decide) hf2 hRl2 hm2) o2 cl_X16 rfl kx_2130 kx_2132 kxp_80 kx_30 kx_2133 (by decide +kernel) rfl (by decide) (Nat.le_of_ble_eq_true rfl) rfl dX16_connect_346 rfl (fun z4 S4 y4 => ?_)
    obtain ⟨rfl, hT4⟩ := y4
    obtain rfl := hT4.symm
    have epl : plR B ix (fun j => g2 (ia + j)) R = fiR B (bkM (B b)) t R i := by
      unfold fiR
      rw [← eia, ← eix]
      exact plR_c (fun j hj => hg2 _ (by omega))
    rw [epl]
    obtain ⟨tk1, tk2⟩ := tk
    obtain ⟨q, eq⟩ : ∃ q, fiR B (bkM (B b)) t R i = q + 1 := ⟨fiR B (bkM (B b)) t R i - 1, by omega⟩
    have eTk : tkR B (bkM (B b)) t (f9 + 1) i R = tkR B (bkM (B b)) t f9 (i + 1) (rmA R q) := by rw [tkR, eq, Nat.add_sub_cancel]
    rw [eTk] at hk
    rw [eq, Nat.add_sub_cancel] at tk2
    rw [eq, nI_pred]
    have hqn : q < R.length := by
      unfold fiR plR at eq
      have := plD_ok eq
      omega
    refine ks_istore dX16_connect_349 (by decide) rfl ?_
    refine ks_sub [(13, _), (0, _), (1, _), (2, _), (3, _), (4, _), (6, _), (11, _), (12, _)] rfl ?_
    refine ks_aload_n dX16_connect_351 rfl rfl ?_
    refine ks_dup dX16_connect_352 rfl rfl ?_
    refine ks_getf (T := TX16) (kf := 52) kx_2420 rfl in_X16 cl_X16 (by decide) o2 rfl dX16_connect_353 rfl ?_
    refine ks_tv v522 ?_
    refine ks_iconst (x := nI 1) dX16_connect_356 (by decide) rfl ?_
    refine ks_subN (by omega) dX16_connect_357 rfl ?_
    refine ks_putf (T := TX16) (kf := 52) kx_2420 rfl in_X16 tyX16_ok nmX16 cl_X16 (by decide) o2 (Nat.le_of_ble_eq_true rfl) rfl rfl rfl rfl dX16_connect_358 rfl ?_
    refine md_put mdp_52 ?_
    refine ks_aload_n dX16_connect_361 rfl rfl ?_
    refine ks_getf (T := TX16) (kf := 51) kx_2419 rfl in_X16 cl_X16 (by decide) (ks_set_same _ _ _) rfl dX16_connect_362 rfl ?_
    refine ks_iload dX16_connect_365 rfl rfl ?_
    refine ks_aload_n dX16_connect_367 rfl rfl ?_
    refine ks_getf (T := TX16) (kf := 51) kx_2419 rfl in_X16 cl_X16 (by decide) (ks_set_same _ _ _) rfl dX16_connect_368 rfl ?_
    refine ks_aload_n dX16_connect_371 rfl rfl ?_
    refine ks_getf (T := TX16) (kf := 52) kx_2420 rfl in_X16 cl_X16 (by decide) (ks_set_same _ _ _) rfl dX16_connect_372 rfl ?_
    refine ks_tv (va_up_self _ _ _) ?_
    refine ks_ialdN (i := R.length - 1) ((ks_set_ne _ _ (by decide)).trans e3432) rfl (by omega) (by decide) dX16_connect_375 rfl ?_
    refine ks_iastNN (i := q) (v := f2 (R.length - 1)) (by decide) ((ks_set_ne _ _ (by decide)).trans e3432) (by omega) (by decide) dX16_connect_376 rfl ?_
    refine ks_incN (c := 1) (e := i + 1) dX16_connect_377 rfl (by decide) rfl (by decide) rfl ?_
    refine ks_sub [(11, _), (0, _), (1, _), (2, _), (3, _), (4, _), (6, _), (12, _), (13, _)] rfl ?_
    refine ks_goto (tgt := 294) dX16_connect_380 (by decide) ?_
    have u5 : ks_up S2 (ks_set (ks_set S2 290 (rfE (va_up V2 52 (.int (nI (R.length - 1)))))) 343 (kN 2300 (va_up f2 q (f2 (R.length - 1))))) [290, 343] := (ks_up_set _ _ (by decide)).trans (ks_up_set _ _ (by decide))
    have C5 := C2.wr (R2 := rmA R q) u5 ((ks_set_ne _ _ (by decide)).trans (ks_set_same _ _ _)) (fun j hj => va_up_ne _ _ hj) (ks_set_same _ _ _) (fun j hj => by
      rw [rmA_len] at hj
      rw [rmA_at hqn hj]
      by_cases e : j = q
      · rw [e, va_up_self, if_pos rfl]; exact hf2 _ (by omega)
      · rw [va_up_ne _ _ e, if_neg e]; exact hf2 _ (by omega)) (by rw [rmA_len]; exact va_up_self _ _ _) (by rw [rmA_len]; omega) (fun x hx => hm2 x (rmA_mem (by omega) hx))
    exact ks_sub [(0, _), (1, _), (2, _), (3, _), (4, _), (6, _), (11, _)] rfl (ih (i + 1) _ _ F1 (rmA R q) (by omega) (K2.trans (cnK.wr u5 (fun j hj => va_up_ne _ _ hj))) C5 tk2 hk)
set_option maxRecDepth 100000 in
set_option maxHeartbeats 1600000 in
theorem l_cnAd {l : Launch} {G : ks_G} {d : Nat} {S : ks_S} {V : Nat → Value} {F n b : Nat} {B : Nat → Bk} {Gp : Pt} (hb : b < n) {t fe : Nat} (ht : t < mg (bkM (B b)) 80) {P9 : Option Value → ks_S → Prop} : ∀ (f9 oi : Nat) (S1 : ks_S) (V1 : Nat → Value) (F1 : Nat) (R : List Nat), oi + f9 = (txP (bkM (B b)) t).2.2.1 → R.length + f9 ≤ 2300 → cnK S S1 V V1 F F1 → rcnS S1 V1 F1 n B Gp R → (∀ (S2 : ks_S) (V2 : Nat → Value) (F2 : Nat), cnK S S2 V V2 F F2 → rcnS S2 V2 F2 n B Gp (radR B b t f9 oi R) → ks_X l G mX16_connect (d + 13) 466 [(0, .ref 290), (1, .int (nI b)), (2, .ref (bkN (B b))), (3, .ref ((bkN (B b)) + 3)), (4, .long (lN fe)), (6, .int (nI t))] [] S2 P9) → ks_X l G mX16_connect (d + 13) 386 [(0, .ref 290), (1, .int (nI b)), (2, .ref (bkN (B b))), (3, .ref ((bkN (B b)) + 3)), (4, .long (lN fe)), (6, .int (nI t)), (7, .int (nI oi))] [] S1 P9 := by
  intro f9
  induction f9 with
  | zero =>
    intro oi S1 V1 F1 R hi hRn K1 C1 hk
    obtain ⟨o1, mb1, rb1, ⟨f1, e3431, hf1⟩, v521, hRl1, hm1⟩ := id C1
    obtain ⟨⟨bf1, h3411, hbf1⟩, hBB1, hn611⟩ := id rb1
    obtain ⟨ob1, pd1, -, -, bd1⟩ := hBB1 b hb
    obtain ⟨g1, A1, gi1, ⟨ey1, kg1⟩, ⟨hMN1, hN161, hPB1, hP61, hy61⟩, hg1, hbl1, X1, hA1⟩ := id pd1
    have r31 : S1.2.2 (((bkN (B b)) + 3) + 4) = some (kN 12 (A1 3)) := X1.2.1 3 (by decide)
    have cnt := (blk_b hbl1).2
    have tx6 := bk_tx5 hbl1 ht
    have bd9 := tx_bd tx6
    refine ks_iload dX16_connect_386 rfl rfl ?_
    refine ks_aload_n dX16_connect_388 rfl rfl ?_
    refine ks_getN (T := TX13) (kf := 5) kx_1822 rfl in_X13 cl_X13 (by decide) X1.1 rfl dX16_connect_389 rfl ?_
    refine ks_iload dX16_connect_392 rfl rfl ?_
    refine ks_ialdN (i := t) r31 rfl (by omega) (by decide) dX16_connect_394 rfl ?_
    rw [show A1 3 t = (txP (bkM (B b)) t).2.2.1 from (hA1 t ht).2.1.2]
    refine ks_icmp_geN (tgt := 466) (by omega) (by omega) dX16_connect_395 (by decide) rfl (fun h1 => ?_) (fun h1 => absurd h1 (by omega))
    exact ks_sub [(0, _), (1, _), (2, _), (3, _), (4, _), (6, _)] rfl (hk S1 V1 F1 K1 C1)
  | succ f9 ih =>
    intro oi S1 V1 F1 R hi hRn K1 C1 hk
    obtain ⟨o1, mb1, rb1, ⟨f1, e3431, hf1⟩, v521, hRl1, hm1⟩ := id C1
    obtain ⟨⟨bf1, h3411, hbf1⟩, hBB1, hn611⟩ := id rb1
    obtain ⟨ob1, pd1, -, -, bd1⟩ := hBB1 b hb
    obtain ⟨g1, A1, gi1, ⟨ey1, kg1⟩, ⟨hMN1, hN161, hPB1, hP61, hy61⟩, hg1, hbl1, X1, hA1⟩ := id pd1
    have r31 : S1.2.2 (((bkN (B b)) + 3) + 4) = some (kN 12 (A1 3)) := X1.2.1 3 (by decide)
    have cnt := (blk_b hbl1).2
    have tx6 := bk_tx5 hbl1 ht
    have bd9 := tx_bd tx6
    refine ks_iload dX16_connect_386 rfl rfl ?_
    refine ks_aload_n dX16_connect_388 rfl rfl ?_
    refine ks_getN (T := TX13) (kf := 5) kx_1822 rfl in_X13 cl_X13 (by decide) X1.1 rfl dX16_connect_389 rfl ?_
    refine ks_iload dX16_connect_392 rfl rfl ?_
    refine ks_ialdN (i := t) r31 rfl (by omega) (by decide) dX16_connect_394 rfl ?_
    rw [show A1 3 t = (txP (bkM (B b)) t).2.2.1 from (hA1 t ht).2.1.2]
    refine ks_icmp_geN (tgt := 466) (by omega) (by omega) dX16_connect_395 (by decide) rfl (fun h1 => absurd h1 (by omega)) (fun h1 => ?_)
    refine ks_aload_n dX16_connect_398 rfl rfl ?_
    refine ks_aload_n dX16_connect_399 rfl rfl ?_
    refine ks_getN (T := TX13) (kf := 8) kx_1828 rfl in_X13 cl_X13 (by decide) X1.1 rfl dX16_connect_400 rfl ?_
    refine ks_bipush (x := nI 32) dX16_connect_403 (by decide) rfl ?_
    refine ks_iload dX16_connect_405 rfl rfl ?_
    refine ks_mulN dX16_connect_407 rfl ?_
    refine ks_iload dX16_connect_408 rfl rfl ?_
    refine ks_i2lN (by omega) dX16_connect_410 rfl ?_
    refine ks_aload_n dX16_connect_411 rfl rfl ?_
    refine ks_getf (T := TX16) (kf := 51) kx_2419 rfl in_X16 cl_X16 (by decide) o1 rfl dX16_connect_412 rfl ?_
    refine ks_aload_n dX16_connect_415 rfl rfl ?_
    refine ks_getf (T := TX16) (kf := 52) kx_2420 rfl in_X16 cl_X16 (by decide) o1 rfl dX16_connect_416 rfl ?_
    refine ks_tv v521 ?_
    refine ks_callV (n := 5) (M' := mX16_findCoin) (c_md_findCoin (d := d + 11) o1 rb1 X1.2.2.1 X1.2.2.2 (a := 32 * t) (ix := oi) (by omega) (by decide) (by omega) e3431 (by decide) hf1 hRl1 hm1) o1 cl_X16 rfl kx_2130 kx_2132 kxp_80 kx_30 kx_2133 (by decide +kernel) rfl (by decide) (Nat.le_of_ble_eq_true rfl) rfl dX16_connect_419 rfl (fun z4 S4 y4 => ?_)
    obtain ⟨rfl, hT4⟩ := y4
    obtain rfl := hT4.symm
    have epl : plR B oi (fun j => gi1 (32 * t + j)) R = plR B oi (fun j => idB (bkM (B b)) t j) R := plR_c (fun j hj => (hA1 t ht).2.2.2 j hj)
    rw [epl]
    have hmk := mkN_K (B := B) hb ht cnt (o := oi) (by omega) bd9.2.1
    rw [radR] at hk
    cases hpl : plR B oi (fun j => idB (bkM (B b)) t j) R with
    | zero =>
      rw [hpl, if_pos rfl] at hk
      refine ks_ti (y := (-1)) rfl ?_
      refine ks_istore dX16_connect_422 (by decide) rfl ?_
      refine ks_sub [(8, _), (0, _), (1, _), (2, _), (3, _), (4, _), (6, _), (7, _)] rfl ?_
      refine ks_iload dX16_connect_424 rfl rfl ?_
      refine ks_if_ge (tgt := 445) dX16_connect_426 (by decide) rfl (fun h3 => ?_) (fun h3 => ?_)
      · exact absurd h3 (by decide)
      · have u5 : ks_up S1 (ks_set (ks_set S1 290 (rfE (va_up V1 52 (.int (nI (R.length + 1)))))) 343 (kN 2300 (va_up f1 R.length (mkN b t oi)))) [290, 343] := (ks_up_set _ _ (by decide)).trans (ks_up_set _ _ (by decide))
        have l1 : (R ++ [mkN b t oi]).length = R.length + 1 := by rw [List.length_append]; rfl
        refine ks_aload_n dX16_connect_429 rfl rfl ?_
        refine ks_getf (T := TX16) (kf := 52) kx_2420 rfl in_X16 cl_X16 (by decide) o1 rfl dX16_connect_430 rfl ?_
        refine ks_tv v521 ?_
        refine ks_istore dX16_connect_433 (by decide) rfl ?_
        refine ks_sub [(8, _), (0, _), (1, _), (2, _), (3, _), (4, _), (6, _), (7, _)] rfl ?_
        refine ks_aload_n dX16_connect_435 rfl rfl ?_
        refine ks_dup dX16_connect_436 rfl rfl ?_
        refine ks_getf (T := TX16) (kf := 52) kx_2420 rfl in_X16 cl_X16 (by decide) o1 rfl dX16_connect_437 rfl ?_
        refine ks_tv v521 ?_
        refine ks_iconst (x := nI 1) dX16_connect_440 (by decide) rfl ?_
        refine ks_addN dX16_connect_441 rfl ?_
        refine ks_putf (T := TX16) (kf := 52) kx_2420 rfl in_X16 tyX16_ok nmX16 cl_X16 (by decide) o1 (Nat.le_of_ble_eq_true rfl) rfl rfl rfl rfl dX16_connect_442 rfl ?_
        refine md_put mdp_52 ?_
        refine ks_aload_n dX16_connect_445 rfl rfl ?_
        refine ks_getf (T := TX16) (kf := 51) kx_2419 rfl in_X16 cl_X16 (by decide) (ks_set_same _ _ _) rfl dX16_connect_446 rfl ?_
        refine ks_iload dX16_connect_449 rfl rfl ?_
        refine ks_iload_n dX16_connect_451 rfl rfl ?_
        refine ks_iload dX16_connect_452 rfl rfl ?_
        refine ks_iload dX16_connect_454 rfl rfl ?_
        refine ks_callS (n := 3) (M' := mX16_mark) (c_md_mark (d := d + 12) (a := b) (b := t) (c := oi)) kx_2360 kx_2361 kx_30 kx_2362 (by decide +kernel) rfl (by decide) (Nat.le_of_ble_eq_true rfl) rfl dX16_connect_456 rfl (fun z5 S5 y5 => ?_)
        obtain ⟨rfl, hT5⟩ := y5
        obtain rfl := hT5.symm
        refine ks_iastNN (i := R.length) (v := mkN b t oi) (by decide) ((ks_set_ne _ _ (by decide)).trans e3431) (by omega) (by decide) dX16_connect_459 rfl ?_
        refine ks_incN (c := 1) (e := oi + 1) dX16_connect_460 rfl (by decide) rfl (by decide) rfl ?_
        refine ks_sub [(7, _), (0, _), (1, _), (2, _), (3, _), (4, _), (6, _), (8, _)] rfl ?_
        refine ks_goto (tgt := 386) dX16_connect_463 (by decide) ?_
        exact ks_sub [(0, _), (1, _), (2, _), (3, _), (4, _), (6, _), (7, _)] rfl (ih (oi + 1) _ _ F1 (R ++ [mkN b t oi]) (by omega) (by rw [l1]; omega) (K1.trans (cnK.wr u5 (fun j hj => va_up_ne _ _ hj))) (C1.wr (R2 := (R ++ [mkN b t oi])) u5 ((ks_set_ne _ _ (by decide)).trans (ks_set_same _ _ _)) (fun j hj => va_up_ne _ _ hj) (ks_set_same _ _ _) (fun j hj => by
          rw [l1] at hj
          by_cases e : j = R.length
          · rw [e, va_up_self, List.getD_eq_getElem?_getD, List.getElem?_append_right (Nat.le_refl _), Nat.sub_self]; rfl
          · rw [va_up_ne _ _ e, List.getD_eq_getElem?_getD, List.getElem?_append_left (by omega), ← List.getD_eq_getElem?_getD]; exact hf1 _ (by omega)) (by rw [l1]; exact va_up_self _ _ _) (by rw [l1]; omega) (fun x hx => by
          rcases List.mem_append.mp hx with h | h
          · exact hm1 x h
          · rw [List.mem_singleton] at h; rw [h]; exact hmk)) hk)
    | succ q =>
      rw [hpl, if_neg (Nat.succ_ne_zero _), Nat.add_sub_cancel] at hk
      rw [nI_pred]
      have hqn : q < R.length := by
        unfold plR at hpl
        have := plD_ok hpl
        omega
      have u5 : ks_up S1 (ks_set S1 343 (kN 2300 (va_up f1 q (mkN b t oi)))) [290, 343] := ks_up_set _ _ (by decide)
      have l1 : (R.set q (mkN b t oi)).length = R.length := List.length_set
      refine ks_istore dX16_connect_422 (by decide) rfl ?_
      refine ks_sub [(8, _), (0, _), (1, _), (2, _), (3, _), (4, _), (6, _), (7, _)] rfl ?_
      refine ks_iload dX16_connect_424 rfl rfl ?_
      refine ks_if_geN (tgt := 445) (by omega) dX16_connect_426 (by decide) ?_
      refine ks_aload_n dX16_connect_445 rfl rfl ?_
      refine ks_getf (T := TX16) (kf := 51) kx_2419 rfl in_X16 cl_X16 (by decide) o1 rfl dX16_connect_446 rfl ?_
      refine ks_iload dX16_connect_449 rfl rfl ?_
      refine ks_iload_n dX16_connect_451 rfl rfl ?_
      refine ks_iload dX16_connect_452 rfl rfl ?_
      refine ks_iload dX16_connect_454 rfl rfl ?_
      refine ks_callS (n := 3) (M' := mX16_mark) (c_md_mark (d := d + 12) (a := b) (b := t) (c := oi)) kx_2360 kx_2361 kx_30 kx_2362 (by decide +kernel) rfl (by decide) (Nat.le_of_ble_eq_true rfl) rfl dX16_connect_456 rfl (fun z5 S5 y5 => ?_)
      obtain ⟨rfl, hT5⟩ := y5
      obtain rfl := hT5.symm
      refine ks_iastNN (i := q) (v := mkN b t oi) (by decide) e3431 (by omega) (by decide) dX16_connect_459 rfl ?_
      refine ks_incN (c := 1) (e := oi + 1) dX16_connect_460 rfl (by decide) rfl (by decide) rfl ?_
      refine ks_sub [(7, _), (0, _), (1, _), (2, _), (3, _), (4, _), (6, _), (8, _)] rfl ?_
      refine ks_goto (tgt := 386) dX16_connect_463 (by decide) ?_
      exact ks_sub [(0, _), (1, _), (2, _), (3, _), (4, _), (6, _), (7, _)] rfl (ih (oi + 1) _ _ F1 (R.set q (mkN b t oi)) (by omega) (by rw [l1]; omega) (K1.trans (cnK.wr u5 (fun j hj => rfl))) (C1.wr (R2 := (R.set q (mkN b t oi))) u5 ((ks_set_ne _ _ (by decide)).trans o1) (fun j hj => rfl) (ks_set_same _ _ _) (fun j hj => by
        rw [l1] at hj
        rw [L_set hqn]
        by_cases e : j = q
        · rw [e, va_up_self, if_pos rfl]
        · rw [va_up_ne _ _ e, if_neg e]; exact hf1 _ hj) (by rw [l1]; exact v521) (by rw [l1]; omega) (fun x hx => by
        rcases List.mem_or_eq_of_mem_set hx with h | h
        · exact hm1 x h
        · rw [h]; exact hmk)) hk)
