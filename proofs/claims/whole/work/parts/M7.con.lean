/-! THE REFERENCE: connect, its loops -/
abbrev LCx : List Nat := 343 :: LMz
abbrev LCf : List Nat := 52 :: LMu
def cnK (S S' : ks_S) (V V' : Nat → Value) (F F' : Nat) : Prop := sfK LCx S S' F F' ∧ ∀ k, k ∉ LCf → V' k = V k
theorem cnK.trans {S S1 S2 : ks_S} {V V1 V2 : Nat → Value} {F F1 F2 : Nat} (h : cnK S S1 V V1 F F1) (k : cnK S1 S2 V1 V2 F1 F2) : cnK S S2 V V2 F F2 := ⟨h.1.trans k.1, fun j a => (k.2 j a).trans (h.2 j a)⟩
theorem cnK.rf (S : ks_S) (V : Nat → Value) (F : Nat) : cnK S S V V F F := ⟨sfK.rf _ _ _, fun _ _ => rfl⟩
theorem ulK.c {S S1 : ks_S} {V V1 : Nat → Value} {F F1 : Nat} (h : ulK S S1 V V1 F F1) : cnK S S1 V V1 F F1 := ⟨h.1.mono (fun a ha => List.mem_cons_of_mem _ ha), fun j a => h.2 j (fun q => a (List.mem_cons_of_mem _ q))⟩
theorem skK.c {S S1 : ks_S} {V V1 : Nat → Value} {F : Nat} (h : skK S S1 V V1) : cnK S S1 V V1 F F := (ulK.ob h.1 (fun j hj => h.2.2 j (fun q => hj (by rw [q]; decide)) (fun q => hj (by rw [q]; decide)))).c
/-- while a block is connected: R the coins' marks -/
def rcnS (S : ks_S) (V : Nat → Value) (F n : Nat) (B : Nat → Bk) (Gp : Pt) (R : List Nat) : Prop := S.2.2 290 = some (rfE V) ∧ mqB S V F Gp ∧ rbS S n B ∧ (∃ f, S.2.2 343 = some (kN 2300 f) ∧ ∀ j, j < R.length → f j = R.getD j 0) ∧ V 52 = .int (nI R.length) ∧ R.length ≤ 2300 ∧ ∀ x ∈ R, rmK n B x
theorem mqB.ob {S S1 : ks_S} {V V1 : Nat → Value} {F : Nat} {Gp : Pt} (h : mqB S V F Gp) (hu : ks_up S S1 [290]) (o1 : S1.2.2 290 = some (rfE V1)) (hv : ∀ j ∈ ([67, 70, 73, 87, 88, 89, 91] : List Nat), V1 j = V j) : mqB S1 V1 F Gp := by
  obtain ⟨xs, ys, vs, hO, hK, ⟨⟨m1, g5, k5, m2⟩, ⟨g6, k6, m3⟩, ⟨X, m4⟩, ⟨c, m5⟩, m6⟩, hh, h369, hlow, dn, h368⟩ := h
  refine ⟨xs, ys, vs, o1, (hK.up hu (by decide) (fun x hx => ?_)).val ⟨hv _ (by decide), hv _ (by decide), hv _ (by decide)⟩, ⟨⟨m1.up hu (by decide), g5, k5, hu.at m2 (by decide)⟩, ⟨g6, k6, hu.at m3 (by decide)⟩, ⟨X, m4.up hu (by decide) (hv _ (by decide))⟩, ⟨c, m5.up hu (by decide) ⟨hv _ (by decide), hv _ (by decide), hv _ (by decide)⟩⟩, m6.up hu (by decide)⟩, hh.sf (sfK.of (F := 0) hu) (by decide), hu.at h369 (by decide), hlow.sf (sfK.of (F := 0) hu) (fun x hx => ?_), dn, hu.at h368 (by decide)⟩
  · rw [List.mem_singleton] at hx
    subst hx
    exact ⟨_, hO, fun g h => by cases h⟩
  · rw [List.mem_singleton] at hx
    subst hx
    exact ⟨_, o1, fun g h => by cases h⟩
theorem mqB.up {S S1 : ks_S} {V : Nat → Value} {F : Nat} {Gp : Pt} {L : List Nat} (h : mqB S V F Gp) (hu : ks_up S S1 L) (hL : ∀ x ∈ L, x = 343 ∨ 564 < x) (h2 : ∀ x ∈ L, ∃ e, S.2.2 x = some e ∧ ∀ g, e ≠ kB 520 g) (h3 : ∀ x ∈ L, ∃ e, S1.2.2 x = some e ∧ ∀ g, e ≠ kB 520 g) : mqB S1 V F Gp := by
  obtain ⟨xs, ys, vs, hO, hK, ⟨⟨m1, g5, k5, m2⟩, ⟨g6, k6, m3⟩, ⟨X, m4⟩, ⟨c, m5⟩, m6⟩, hh, h369, hlow, dn, h368⟩ := h
  have n : ∀ a, a ≠ 343 → a ≤ 564 → a ∉ L := fun a h1 h2 hm => by have := hL a hm; omega
  exact ⟨xs, ys, vs, hu.at hO (n _ (by decide) (by decide)), hK.up hu (fun x hx => by have := hL x hx; omega) h2, ⟨⟨m1.sf (sfK.of (F := 0) hu) (fun x hx => by have := hL x hx; omega), g5, k5, hu.at m2 (n _ (by decide) (by decide))⟩, ⟨g6, k6, hu.at m3 (n _ (by decide) (by decide))⟩, ⟨X, m4.up hu (n _ (by decide) (by decide)) rfl⟩, ⟨c, m5.up hu ⟨n _ (by decide) (by decide), n _ (by decide) (by decide)⟩ ⟨rfl, rfl, rfl⟩⟩, m6.up hu (fun x hx => by have := hL x hx; omega)⟩, hh.sf (sfK.of (F := 0) hu) (fun x hx => by have := hL x hx; omega), hu.at h369 (n _ (by decide) (by decide)), hlow.sf (sfK.of (F := 0) hu) h3, dn, hu.at h368 (n _ (by decide) (by decide))⟩
theorem rcnS.sk {S S1 : ks_S} {V V1 : Nat → Value} {F n : Nat} {B : Nat → Bk} {Gp : Pt} {R : List Nat} (h : rcnS S V F n B Gp R) (hu : skK S S1 V V1) : rcnS S1 V1 F n B Gp R := by
  obtain ⟨h1, h2, h3, ⟨f, h4, h5⟩, h6, h7⟩ := h
  exact ⟨hu.2.1, h2.ob hu.1 hu.2.1 (fun j hj => hu.2.2 j (fun q => absurd (q ▸ hj) (by decide)) (fun q => absurd (q ▸ hj) (by decide))), h3.up hu.1 (by decide), ⟨f, hu.1.at h4 (by decide), h5⟩, (hu.2.2 _ (by decide) (by decide)).trans h6, h7⟩
/-- the reason, and the sum, in the reference -/
def fcR (B : Nat → Bk) (M : List Nat) (t h : Nat) (R : List Nat) : Nat → Nat → Nat → Nat × Nat
  | 0, _, s => (0, s)
  | u + 1, i, s => if fiR B M t R i = 0 then (11, s) else if R.getD (fiR B M t R i - 1) 0 / 256 % 12 = 0 ∧ h - bkH (B (R.getD (fiR B M t R i - 1) 0 / 3072)) < 3 then (12, s) else if 2100000000000000 < s + rmV B (R.getD (fiR B M t R i - 1) 0) then (13, s + rmV B (R.getD (fiR B M t R i - 1) 0)) else fcR B M t h R u (i + 1) (s + rmV B (R.getD (fiR B M t R i - 1) 0))
set_option maxRecDepth 100000 in
set_option maxHeartbeats 1600000 in
theorem l_cnIn {l : Launch} {G : ks_G} {d : Nat} {S : ks_S} {V : Nat → Value} {F n b : Nat} {B : Nat → Bk} {Gp : Pt} {R : List Nat} (hI : rcnS S V F n B Gp R) (hb : b < n) {t fe : Nat} (ht : t < mg (bkM (B b)) 80) (hv9 : ∀ x ∈ R, rmV B x ≤ 2100000000000000) (hh9 : ∀ i, i < n → bkH (B i) < 2 ^ 30) {P9 : Option Value → ks_S → Prop} : ∀ (f9 i s : Nat) (S1 : ks_S) (V1 : Nat → Value), i + f9 = (txP (bkM (B b)) t).1 → s ≤ 2100000000000000 → skK S S1 V V1 → (∀ (S2 : ks_S) (V2 : Nat → Value) (s2 : Nat), skK S S2 V V2 → s2 ≤ 2100000000000000 → fcR B (bkM (B b)) t (bkH (B b)) R f9 i s = (0, s2) → ks_X l G mX16_connect (d + 13) 179 [(0, .ref 290), (1, .int (nI b)), (2, .ref (bkN (B b))), (3, .ref ((bkN (B b)) + 3)), (4, .long (lN fe)), (6, .int (nI t)), (7, .long (lN s2))] [] S2 P9) → (∀ (S2 : ks_S) (V2 : Nat → Value) (c s2 : Nat), skK S S2 V V2 → fcR B (bkM (B b)) t (bkH (B b)) R f9 i s = (c, s2) → c ≠ 0 → c ≤ 13 → P9 (some (.int (nI c))) S2) → ks_X l G mX16_connect (d + 13) 38 [(0, .ref 290), (1, .int (nI b)), (2, .ref (bkN (B b))), (3, .ref ((bkN (B b)) + 3)), (4, .long (lN fe)), (6, .int (nI t)), (7, .long (lN s)), (9, .int (nI i))] [] S1 P9 := by
  intro f9
  induction f9 with
  | zero =>
    intro i s S1 V1 hi hs sk hk hno
    have C1 := hI.sk sk
    obtain ⟨o1, mb1, rb1, ⟨f1, e3431, hf1⟩, v521, hRl1, hm1⟩ := id C1
    obtain ⟨⟨bf1, h3411, hbf1⟩, hBB1, hn611⟩ := id rb1
    obtain ⟨ob1, pd1, -, -, bd1⟩ := hBB1 b hb
    obtain ⟨g1, A1, gi1, ⟨ey1, kg1⟩, ⟨hMN1, hN161, hPB1, hP61, hy61⟩, hg1, hbl1, X1, hA1⟩ := id pd1
    have r21 : S1.2.2 (((bkN (B b)) + 3) + 3) = some (kN 12 (A1 2)) := X1.2.1 2 (by decide)
    have cnt := (blk_b hbl1).2
    have tx6 := bk_tx5 hbl1 ht
    have bd9 := tx_bd tx6
    refine ks_iload dX16_connect_38 rfl rfl ?_
    refine ks_aload_n dX16_connect_40 rfl rfl ?_
    refine ks_getN (T := TX13) (kf := 4) kx_1820 rfl in_X13 cl_X13 (by decide) X1.1 rfl dX16_connect_41 rfl ?_
    refine ks_iload dX16_connect_44 rfl rfl ?_
    refine ks_ialdN (i := t) r21 rfl (by omega) (by decide) dX16_connect_46 rfl ?_
    rw [show A1 2 t = (txP (bkM (B b)) t).1 from (hA1 t ht).2.1.1]
    refine ks_icmp_geN (tgt := 179) (by omega) (by omega) dX16_connect_47 (by decide) rfl (fun h1 => ?_) (fun h1 => absurd h1 (by omega))
    exact ks_sub [(0, _), (1, _), (2, _), (3, _), (4, _), (6, _), (7, _)] rfl (hk S1 V1 s sk hs rfl)
  | succ f9 ih =>
    intro i s S1 V1 hi hs sk hk hno
    have C1 := hI.sk sk
    obtain ⟨o1, mb1, rb1, ⟨f1, e3431, hf1⟩, v521, hRl1, hm1⟩ := id C1
    obtain ⟨⟨bf1, h3411, hbf1⟩, hBB1, hn611⟩ := id rb1
    obtain ⟨ob1, pd1, -, -, bd1⟩ := hBB1 b hb
    obtain ⟨g1, A1, gi1, ⟨ey1, kg1⟩, ⟨hMN1, hN161, hPB1, hP61, hy61⟩, hg1, hbl1, X1, hA1⟩ := id pd1
    have r21 : S1.2.2 (((bkN (B b)) + 3) + 3) = some (kN 12 (A1 2)) := X1.2.1 2 (by decide)
    have cnt := (blk_b hbl1).2
    have tx6 := bk_tx5 hbl1 ht
    have bd9 := tx_bd tx6
    refine ks_iload dX16_connect_38 rfl rfl ?_
    refine ks_aload_n dX16_connect_40 rfl rfl ?_
    refine ks_getN (T := TX13) (kf := 4) kx_1820 rfl in_X13 cl_X13 (by decide) X1.1 rfl dX16_connect_41 rfl ?_
    refine ks_iload dX16_connect_44 rfl rfl ?_
    refine ks_ialdN (i := t) r21 rfl (by omega) (by decide) dX16_connect_46 rfl ?_
    rw [show A1 2 t = (txP (bkM (B b)) t).1 from (hA1 t ht).2.1.1]
    refine ks_icmp_geN (tgt := 179) (by omega) (by omega) dX16_connect_47 (by decide) rfl (fun h1 => absurd h1 (by omega)) (fun h1 => ?_)
    refine ks_aload_n dX16_connect_50 rfl rfl ?_
    refine ks_aload_n dX16_connect_51 rfl rfl ?_
    refine ks_iload dX16_connect_52 rfl rfl ?_
    refine ks_iload dX16_connect_54 rfl rfl ?_
    have hik : i < (txP (bkM (B b)) t).1 := by omega
    have zb := tx_in tx6 i hik
    obtain ⟨ia, eia⟩ : ∃ z, z = inA (bkM (B b)) t i := ⟨_, rfl⟩
    have zi : ia + 41 ≤ (bkM (B b)).length := by rw [eia]; unfold inA; omega
    refine ks_callV (n := 3) (M' := mX16_input) (c_pd_input (d := d + 10) o1 pd1 ht hik) o1 cl_X16 rfl kx_2122 kx_2124 kxp_78 kx_30 kx_2125 (by decide +kernel) rfl (by decide) (Nat.le_of_ble_eq_true rfl) rfl dX16_connect_56 rfl (fun z2 S2 y2 => ?_)
    obtain ⟨rfl, V2, sk2⟩ := y2
    rw [← eia]
    have sk' := sk.trans sk2
    have C2 := C1.sk sk2
    obtain ⟨o2, mb2, rb2, ⟨f2, e3432, hf2⟩, v522, hRl2, hm2⟩ := id C2
    obtain ⟨⟨bf2, h3412, hbf2⟩, hBB2, hn612⟩ := id rb2
    obtain ⟨ob2, pd2, -, -, bd2⟩ := hBB2 b hb
    obtain ⟨g2, A2, gi2, ⟨ey2, kg2⟩, ⟨hMN2, hN162, hPB2, hP62, hy62⟩, hg2, hbl2, X2, hA2⟩ := id pd2
    refine ks_istore dX16_connect_59 (by decide) rfl ?_
    refine ks_sub [(10, _), (0, _), (1, _), (2, _), (3, _), (4, _), (6, _), (7, _), (9, _)] rfl ?_
    refine ks_aload_n dX16_connect_61 rfl rfl ?_
    refine ks_aload_n dX16_connect_62 rfl rfl ?_
    refine ks_getN (T := TX13) (kf := 0) kx_1813 rfl in_X13 cl_X13 (by decide) X2.1 rfl dX16_connect_63 rfl ?_
    refine ks_iload dX16_connect_66 rfl rfl ?_
    refine ks_aload_n dX16_connect_68 rfl rfl ?_
    refine ks_aload_n dX16_connect_69 rfl rfl ?_
    refine ks_getN (T := TX13) (kf := 0) kx_1813 rfl in_X13 cl_X13 (by decide) X2.1 rfl dX16_connect_70 rfl ?_
    refine ks_iload dX16_connect_73 rfl rfl ?_
    refine ks_bipush (x := nI 32) dX16_connect_75 (by decide) rfl ?_
    refine ks_addN dX16_connect_77 rfl ?_
    refine ks_iconst (x := nI 4) dX16_connect_78 (by decide) rfl ?_
    obtain ⟨ix, eix⟩ : ∃ z, z = ks_num (mg (bkM (B b))) (ia + 32) 4 := ⟨_, rfl⟩
    have ixb := num4_lt pd2.kO (ia + 32)
    rw [← eix] at ixb
    refine ks_callV (n := 3) (M' := mX16_number) (c_pd_num (d := d + 12) pd2 (i := ia + 32) (k := 4) (by omega) (by decide)) o2 cl_X16 rfl kx_2020 kx_2022 kxp_68 kx_30 kx_2023 (by decide +kernel) rfl (by decide) (Nat.le_of_ble_eq_true rfl) rfl dX16_connect_79 rfl (fun z3 S3 y3 => ?_)
    obtain ⟨rfl, hT3⟩ := y3
    obtain rfl := hT3.symm
    rw [← eix]
    refine ks_aload_n dX16_connect_82 rfl rfl ?_
    refine ks_getf (T := TX16) (kf := 51) kx_2419 rfl in_X16 cl_X16 (by decide) o2 rfl dX16_connect_83 rfl ?_
    refine ks_aload_n dX16_connect_86 rfl rfl ?_
    refine ks_getf (T := TX16) (kf := 52) kx_2420 rfl in_X16 cl_X16 (by decide) o2 rfl dX16_connect_87 rfl ?_
    refine ks_tv v522 ?_
    refine ks_callV (n := 5) (M' := mX16_findCoin) (c_md_findCoin (d := d + 11) o2 rb2 ey2 kg2 (a := ia) (ix := ix) (by omega) (by decide) (by omega) e3432 (by decide) hf2 hRl2 hm2) o2 cl_X16 rfl kx_2130 kx_2132 kxp_80 kx_30 kx_2133 (by decide +kernel) rfl (by decide) (Nat.le_of_ble_eq_true rfl) rfl dX16_connect_90 rfl (fun z4 S4 y4 => ?_)
    obtain ⟨rfl, hT4⟩ := y4
    obtain rfl := hT4.symm
    have epl : plR B ix (fun j => g2 (ia + j)) R = fiR B (bkM (B b)) t R i := by
      unfold fiR
      rw [← eia, ← eix]
      exact plR_c (fun j hj => hg2 _ (by omega))
    rw [epl]
    rw [fcR] at hk hno
    cases hpl : fiR B (bkM (B b)) t R i with
    | zero =>
      rw [hpl, if_pos rfl] at hno
      refine ks_ti (y := (-1)) rfl ?_
      refine ks_istore dX16_connect_93 (by decide) rfl ?_
      refine ks_sub [(11, _), (0, _), (1, _), (2, _), (3, _), (4, _), (6, _), (7, _), (9, _), (10, _)] rfl ?_
      refine ks_iload dX16_connect_95 rfl rfl ?_
      refine ks_if_ge (tgt := 103) dX16_connect_97 (by decide) rfl (fun h3 => ?_) (fun h3 => ?_)
      · exact absurd h3 (by decide)
      · refine ks_bipush (x := nI 11) dX16_connect_100 (by decide) rfl ?_
        refine ks_iret rfl dX16_connect_102 ?_
        exact hno S2 V2 11 s sk' rfl (by decide) (by decide)
    | succ q =>
      rw [hpl, if_neg (Nat.succ_ne_zero _), Nat.add_sub_cancel] at hk hno
      rw [nI_pred]
      have hqn : q < R.length := by
        unfold fiR plR at hpl
        have := plD_ok hpl
        omega
      have hxm := getD_mem hqn
      have efx := hf2 q hqn
      obtain ⟨x, ex⟩ : ∃ x, x = R.getD q 0 := ⟨_, rfl⟩
      rw [← ex] at hxm efx hk hno
      have hx9 := hm2 x hxm
      have hvx := hv9 x hxm
      have hxb := hx9.b hn612
      obtain ⟨x1, x2, x3⟩ := id hx9
      have hhx := hh9 (x / 3072) x1
      have hhb := hh9 b hb
      refine ks_istore dX16_connect_93 (by decide) rfl ?_
      refine ks_sub [(11, _), (0, _), (1, _), (2, _), (3, _), (4, _), (6, _), (7, _), (9, _), (10, _)] rfl ?_
      refine ks_iload dX16_connect_95 rfl rfl ?_
      refine ks_if_geN (tgt := 103) (by omega) dX16_connect_97 (by decide) ?_
      refine ks_aload_n dX16_connect_103 rfl rfl ?_
      refine ks_getf (T := TX16) (kf := 51) kx_2419 rfl in_X16 cl_X16 (by decide) o2 rfl dX16_connect_104 rfl ?_
      refine ks_iload dX16_connect_107 rfl rfl ?_
      refine ks_ialdN (i := q) e3432 rfl (by omega) (by decide) dX16_connect_109 rfl ?_
      rw [efx]
      obtain ⟨ox, -, -, -, -⟩ := hBB2 (x / 3072) x1
      refine ks_istore dX16_connect_110 (by decide) rfl ?_
      refine ks_sub [(12, _), (0, _), (1, _), (2, _), (3, _), (4, _), (6, _), (7, _), (9, _), (10, _), (11, _)] rfl ?_
      refine ks_iload dX16_connect_112 rfl rfl ?_
      refine ks_sipush (x := nI 256) dX16_connect_114 (by decide) rfl ?_
      refine ks_divN (by omega) (by decide) (by decide) dX16_connect_117 rfl ?_
      refine ks_bipush (x := nI 12) dX16_connect_118 (by decide) rfl ?_
      refine ks_remN (by omega) (by decide) (by decide) dX16_connect_120 rfl ?_
      refine ks_sub [(0, _), (1, _), (2, _), (3, _), (4, _), (6, _), (7, _), (9, _), (10, _), (11, _), (12, _)] rfl ?_
      have go150 : ¬ (x / 256 % 12 = 0 ∧ bkH (B b) - bkH (B (x / 3072)) < 3) → ks_X l G mX16_connect (d + 13) 150 [(0, .ref 290), (1, .int (nI b)), (2, .ref (bkN (B b))), (3, .ref ((bkN (B b)) + 3)), (4, .long (lN fe)), (6, .int (nI t)), (7, .long (lN s)), (9, .int (nI i)), (12, .int (nI x))] [] S2 P9 := by
        intro yg
        rw [if_neg yg] at hk hno
        refine ks_lload dX16_connect_150 rfl rfl ?_
        refine ks_aload_n dX16_connect_152 rfl rfl ?_
        refine ks_iload dX16_connect_153 rfl rfl ?_
        refine ks_callV (n := 1) (M' := mX16_valueOf) (c_md_valueOf (d := d + 9) o2 rb2 hx9) o2 cl_X16 rfl kx_2137 kx_2139 kxp_81 kx_30 kx_2140 (by decide +kernel) rfl (by decide) (Nat.le_of_ble_eq_true rfl) rfl dX16_connect_155 rfl (fun z5 S5 y5 => ?_)
        obtain ⟨rfl, V5, sk5⟩ := y5
        have sk5' := sk'.trans sk5
        refine ks_laddN dX16_connect_158 rfl ?_
        refine ks_lstore dX16_connect_159 (by decide) rfl ?_
        refine ks_sub [(7, _), (0, _), (1, _), (2, _), (3, _), (4, _), (6, _), (9, _), (12, _)] rfl ?_
        refine ks_lload dX16_connect_161 rfl rfl ?_
        refine ks_ldc2 dX16_connect_163 kx_2145 rfl ?_
        refine ks_tl (y := lN 2100000000000000) rfl ?_
        refine ks_lif_leN (tgt := 173) (by omega) (by decide) dX16_connect_166 rfl dX16_connect_167 (by decide) rfl (fun h6 => ?_) (fun h6 => ?_)
        · rw [if_neg (by omega)] at hk hno
          refine ks_incN (c := 1) (e := i + 1) dX16_connect_173 rfl (by decide) rfl (by decide) rfl ?_
          refine ks_sub [(9, _), (0, _), (1, _), (2, _), (3, _), (4, _), (6, _), (7, _), (12, _)] rfl ?_
          refine ks_goto (tgt := 38) dX16_connect_176 (by decide) ?_
          refine ks_sub [(0, _), (1, _), (2, _), (3, _), (4, _), (6, _), (7, _), (9, _)] rfl ?_
          exact ih (i + 1) (s + rmV B x) S5 V5 (by omega) (by omega) sk5' hk hno
        · refine ks_bipush (x := nI 13) dX16_connect_170 (by decide) rfl ?_
          refine ks_iret rfl dX16_connect_172 ?_
          rw [if_pos (by omega)] at hno
          exact hno S5 V5 13 _ sk5' rfl (by decide) (by decide)
      refine ks_if_neN (tgt := 150) (by omega) dX16_connect_121 (by decide) rfl (fun h4 => ?_) (fun h4 => ?_)
      · exact ks_sub [(0, _), (1, _), (2, _), (3, _), (4, _), (6, _), (7, _), (9, _), (12, _)] rfl (go150 (fun h => h4 h.1))
      · by_cases hle : bkH (B (x / 3072)) ≤ bkH (B b)
        · refine ks_aload_n dX16_connect_124 rfl rfl ?_
          refine ks_getN (T := TX12) (kf := 4) kx_2064 rfl in_X12 cl_X12 (by decide) ob2 rfl dX16_connect_125 rfl ?_
          refine ks_aload_n dX16_connect_128 rfl rfl ?_
          refine ks_getf (T := TX16) (kf := 46) kx_2414 rfl in_X16 cl_X16 (by decide) o2 rfl dX16_connect_129 rfl ?_
          refine ks_iload dX16_connect_132 rfl rfl ?_
          refine ks_sipush (x := nI 3072) dX16_connect_134 (by decide) rfl ?_
          refine ks_divN (by omega) (by decide) (by decide) dX16_connect_137 rfl ?_
          refine ks_aaldN (i := x / 3072) (b := (bkN (B (x / 3072)))) (by decide) h3412 rfl (by omega) (by decide) (hbf2 (x / 3072) (by omega)) dX16_connect_138 rfl ?_
          refine ks_getN (T := TX12) (kf := 4) kx_2064 rfl in_X12 cl_X12 (by decide) ox rfl dX16_connect_139 rfl ?_
          refine ks_subN (by omega) dX16_connect_142 rfl ?_
          refine ks_iconst (x := nI 3) dX16_connect_143 (by decide) rfl ?_
          refine ks_icmp_geN (tgt := 150) (by omega) (by decide) dX16_connect_144 (by decide) rfl (fun h6 => ?_) (fun h6 => ?_)
          · exact ks_sub [(0, _), (1, _), (2, _), (3, _), (4, _), (6, _), (7, _), (9, _), (12, _)] rfl (go150 (fun h => by omega))
          · refine ks_bipush (x := nI 12) dX16_connect_147 (by decide) rfl ?_
            refine ks_iret rfl dX16_connect_149 ?_
            rw [if_pos ⟨h4, by omega⟩] at hno
            exact hno S2 V2 12 s sk' rfl (by decide) (by decide)
        · refine ks_aload_n dX16_connect_124 rfl rfl ?_
          refine ks_getN (T := TX12) (kf := 4) kx_2064 rfl in_X12 cl_X12 (by decide) ob2 rfl dX16_connect_125 rfl ?_
          refine ks_aload_n dX16_connect_128 rfl rfl ?_
          refine ks_getf (T := TX16) (kf := 46) kx_2414 rfl in_X16 cl_X16 (by decide) o2 rfl dX16_connect_129 rfl ?_
          refine ks_iload dX16_connect_132 rfl rfl ?_
          refine ks_sipush (x := nI 3072) dX16_connect_134 (by decide) rfl ?_
          refine ks_divN (by omega) (by decide) (by decide) dX16_connect_137 rfl ?_
          refine ks_aaldN (i := x / 3072) (b := (bkN (B (x / 3072)))) (by decide) h3412 rfl (by omega) (by decide) (hbf2 (x / 3072) (by omega)) dX16_connect_138 rfl ?_
          refine ks_getN (T := TX12) (kf := 4) kx_2064 rfl in_X12 cl_X12 (by decide) ox rfl dX16_connect_139 rfl ?_
          refine ks_isub dX16_connect_142 rfl ?_
          refine ks_iconst (x := nI 3) dX16_connect_143 (by decide) rfl ?_
          refine ks_icmp_ge (tgt := 150) dX16_connect_144 (by decide) rfl (fun h6 => ?_) (fun h6 => ?_)
          · exact absurd h6 (Int32.not_le.mpr (neg_lt3 (by omega) (by omega)))
          · refine ks_bipush (x := nI 12) dX16_connect_147 (by decide) rfl ?_
            refine ks_iret rfl dX16_connect_149 ?_
            rw [if_pos ⟨h4, by omega⟩] at hno
            exact hno S2 V2 12 s sk' rfl (by decide) (by decide)
