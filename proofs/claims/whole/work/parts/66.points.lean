/-! CURVE: doubling and adding of points -/
def mM (a b : Nat) : Nat := a * b % pP
def aM (a b : Nat) : Nat := (a + b) % pP
def sM (a b : Nat) : Nat := (a + (pP - b)) % pP
theorem mM_lt (a b : Nat) : mM a b < pP := Nat.mod_lt _ (by decide)
theorem aM_lt (a b : Nat) : aM a b < pP := Nat.mod_lt _ (by decide)
theorem sM_lt (a b : Nat) : sM a b < pP := Nat.mod_lt _ (by decide)
theorem ne6 {j k : Nat} (h : 6 ≤ j) (hk : k < 6) : j ≠ k := by omega
theorem lt_of_eq9 {a b c : Nat} (h : a = b) (h2 : b < c) : a < c := h ▸ h2
def cvX (S : ks_S) (ir : Bool) (R : Nat → Nat) : Prop := S.2.2 14 = some (cvO ir) ∧ fdX S 15 16 100 R ∧ R 100 = pP
theorem cvX.of {S S1 : ks_S} {ir : Bool} {R R1 : Nat → Nat} (h : cvX S ir R) (hu : ks_up S S1 [16]) (hf : fdX S1 15 16 100 R1) (hr : R1 100 = R 100) : cvX S1 ir R1 := ⟨hu.at h.1 (by decide), hf, hr.trans h.2.2⟩
theorem c_cvm {l : Launch} {G : ks_G} {d : Nat} {S : ks_S} {R : Nat → Nat} {ir : Bool} {o x y : Nat} (h : cvX S ir R) (ho : o < 100) (hx : x < 105) (hy : y < 105) (hX : R x < 2 ^ 256) (hY : R y < 2 ^ 256) : ks_P l G yX3_multiply mX3_multiply d [.ref 14, .int (nI (9 * o)), .int (nI (9 * x)), .int (nI (9 * y))] S (fun z S' => z = none ∧ ks_up S S' [16] ∧ cvX S' ir (va_up R o (mM (R x) (R y)))) :=
  (c_cv_multiply h.1 h.2.1 h.2.2 ho hx hy hX hY).mono (fun z S' hq => ⟨hq.1, hq.2.1, h.of hq.2.1 hq.2.2 (va_up_ne _ _ (by omega))⟩)
theorem c_cva {l : Launch} {G : ks_G} {d : Nat} {S : ks_S} {R : Nat → Nat} {ir : Bool} {o x y : Nat} (h : cvX S ir R) (ho : o < 100) (hx : x < 105) (hy : y < 105) (hX : R x < pP) (hY : R y < pP) : ks_P l G yX5_add mX5_add d [.ref 15, .int (nI (9 * o)), .int (nI (9 * x)), .int (nI (9 * y))] S (fun z S' => z = none ∧ ks_up S S' [16] ∧ cvX S' ir (va_up R o (aM (R x) (R y)))) :=
  (c_fd_add h.2.1 (by omega) hx hy (by omega) (by have := pP_lt; omega)).mono (fun z S' hq => by
    obtain ⟨h1, h2, h3⟩ := hq
    have e : (if R 100 ≤ R x + R y then R x + R y - R 100 else R x + R y) = aM (R x) (R y) := by
      unfold aM
      rw [h.2.2]
      split
      · next c => rw [Nat.mod_eq_sub_mod c, Nat.mod_eq_of_lt (by omega)]
      · next c => rw [Nat.mod_eq_of_lt (by omega)]
    rw [e] at h3
    exact ⟨h1, h2, h.of h2 h3 (va_up_ne _ _ (by omega))⟩)
theorem c_cvs {l : Launch} {G : ks_G} {d : Nat} {S : ks_S} {R : Nat → Nat} {ir : Bool} {o x y : Nat} (h : cvX S ir R) (ho : o < 100) (hx : x < 105) (hy : y < 105) (hX : R x < pP) (hY : R y < pP) : ks_P l G yX5_subtract mX5_subtract d [.ref 15, .int (nI (9 * o)), .int (nI (9 * x)), .int (nI (9 * y))] S (fun z S' => z = none ∧ ks_up S S' [16] ∧ cvX S' ir (va_up R o (sM (R x) (R y)))) :=
  (c_fd_subtract h.2.1 (by omega) hx hy (by omega) (by rw [h.2.2]; omega) (fun _ => by rw [h.2.2]; have := pP_lt; omega)).mono (fun z S' hq => by
    obtain ⟨h1, h2, h3⟩ := hq
    have e : (if R y ≤ R x then R x - R y else R x + R 100 - R y) = sM (R x) (R y) := by
      unfold sM
      rw [h.2.2]
      split
      · next c => rw [show R x + (pP - R y) = (R x - R y) + pP by omega, Nat.add_mod_right, Nat.mod_eq_of_lt (by omega)]
      · next c => rw [Nat.mod_eq_of_lt (by omega)]; omega
    rw [e] at h3
    exact ⟨h1, h2, h.of h2 h3 (va_up_ne _ _ (by omega))⟩)
/-- twice a point -/
def dbM (x : Nat) : Nat := aM (mM x x) (aM (mM x x) (mM x x))
def dbS (x y : Nat) : Nat := aM (mM x (aM (mM y y) (mM y y))) (mM x (aM (mM y y) (mM y y)))
def dbX (x y : Nat) : Nat := sM (sM (mM (dbM x) (dbM x)) (dbS x y)) (dbS x y)
def dbE (y : Nat) : Nat := aM (mM (aM (mM y y) (mM y y)) (aM (mM y y) (mM y y))) (mM (aM (mM y y) (mM y y)) (aM (mM y y) (mM y y)))
def dbY (x y : Nat) : Nat := sM (mM (sM (dbS x y) (dbX x y)) (dbM x)) (dbE y)
def dbZ (y z : Nat) : Nat := aM (mM y z) (mM y z)
/-- the sum of two points -/
def adU (x z2 : Nat) : Nat := mM x (mM z2 z2)
def adH (x1 z1 x2 z2 : Nat) : Nat := sM (mM x2 (mM z1 z1)) (adU x1 z2)
def adV (y z2 : Nat) : Nat := mM (mM y z2) (mM z2 z2)
def adR (y1 z1 y2 z2 : Nat) : Nat := sM (mM (mM y2 z1) (mM z1 z1)) (adV y1 z2)
def adZ (z1 z2 h : Nat) : Nat := mM (mM z1 z2) h
def adX (u h r : Nat) : Nat := sM (sM (sM (mM r r) (mM (mM h h) h)) (mM u (mM h h))) (mM u (mM h h))
def adY (u v h r : Nat) : Nat := sM (mM (sM (mM u (mM h h)) (adX u h r)) r) (mM v (mM (mM h h) h))
set_option maxRecDepth 100000 in
set_option maxHeartbeats 2000000 in
theorem c_cv_doublePoint {l : Launch} {G : ks_G} {d : Nat} {S : ks_S} {R : Nat → Nat} {ir : Bool} {o p : Nat} (hC : cvX S ir R) (ho6 : 6 ≤ o) (ho : o + 3 ≤ 100) (hp6 : 6 ≤ p) (hp : p + 3 ≤ 100) (hxp : R p < pP) (hyp : R (p + 1) < pP) (hzp : R (p + 2) < pP) : ks_P l G yX3_doublePoint mX3_doublePoint (d + 1) [.ref 14, .int (nI (9 * o)), .int (nI (9 * p))] S (fun z S' => z = none ∧ ks_up S S' [16] ∧ ∃ R2, cvX S' ir R2 ∧ R2 o = dbX (R p) (R (p + 1)) ∧ R2 (o + 1) = dbY (R p) (R (p + 1)) ∧ R2 (o + 2) = dbZ (R (p + 1)) (R (p + 2)) ∧ (∀ j, 6 ≤ j → j ≠ o → j ≠ o + 1 → j ≠ o + 2 → R2 j = R j)) := by
  have n01 : o ≠ o + 1 := by omega
  have n02 : o ≠ o + 2 := by omega
  have n12 : o + 1 ≠ o + 2 := by omega
  have o0 : 6 ≤ o := ho6
  have o1 : 6 ≤ o + 1 := by omega
  have o2 : 6 ≤ o + 2 := by omega
  have oa : o < 100 := by omega
  have ob : o + 1 < 100 := by omega
  have oc : o + 2 < 100 := by omega
  have p0 : 6 ≤ p := hp6
  have p1 : 6 ≤ p + 1 := by omega
  have p2 : 6 ≤ p + 2 := by omega
  have pa : p < 105 := by omega
  have pb : p + 1 < 105 := by omega
  have pc : p + 2 < 105 := by omega
  have O0 : ∀ j, 6 ≤ j → j ≠ o → j ≠ o + 1 → j ≠ o + 2 → R j = R j := fun _ _ _ _ _ => rfl
  have P0 : R p = R p := rfl
  have P1 : R (p + 1) = R (p + 1) := rfl
  have P2 : R (p + 2) = R (p + 2) := rfl
  refine ks_of (by decide) rfl rfl (Nat.le_of_ble_eq_true rfl) ?_
  show ks_X l G mX3_doublePoint (d + 1) 0 [(0, .ref 14), (1, .int (nI (9 * o))), (2, .int (nI (9 * p)))] [] S _
  refine ks_aload_n dX3_doublePoint_0 rfl rfl ?_
  refine ks_iconst (x := nI 0) dX3_doublePoint_1 (by decide) rfl ?_
  refine ks_iload_n dX3_doublePoint_2 rfl rfl ?_
  refine ks_iload_n dX3_doublePoint_3 rfl rfl ?_
  refine ks_callV (n := 3) (M' := mX3_multiply) (c_cvm (d := d) (o := 0) (x := p) (y := p) hC (by decide) pa pa (Nat.lt_trans (lt_of_eq9 P0 hxp) pP_lt) (Nat.lt_trans (lt_of_eq9 P0 hxp) pP_lt)) hC.1 cl_X3 rfl kx_502 kx_504 kxp_2 kx_4 kx_505 (by decide +kernel) rfl (by decide) (Nat.le_of_ble_eq_true rfl) rfl dX3_doublePoint_4 rfl (fun z1 T1 y1 => ?_)
  obtain ⟨rfl, u1, C1⟩ := y1
  rw [P0] at C1
  obtain ⟨Q1, s1⟩ : ∃ Q, Q = va_up R 0 (mM (R p) (R p)) := ⟨_, rfl⟩
  rw [← s1] at C1
  have r1 : Q1 0 = mM (R p) (R p) := by rw [s1]; exact va_up_self _ _ _
  have r1_p : Q1 p = R p := by rw [s1]; exact (va_up_ne _ _ (ne6 p0 (by decide))).trans P0
  have r1_p1 : Q1 (p + 1) = R (p + 1) := by rw [s1]; exact (va_up_ne _ _ (ne6 p1 (by decide))).trans P1
  have r1_p2 : Q1 (p + 2) = R (p + 2) := by rw [s1]; exact (va_up_ne _ _ (ne6 p2 (by decide))).trans P2
  have O1 : ∀ j, 6 ≤ j → j ≠ o → j ≠ o + 1 → j ≠ o + 2 → Q1 j = R j := fun j h1 h2 h3 h4 => by rw [s1]; exact (va_up_ne _ _ (ne6 h1 (by decide))).trans (O0 j h1 h2 h3 h4)
  refine ks_aload_n dX3_doublePoint_7 rfl rfl ?_
  refine ks_getf (T := TX3) (kf := 0) kx_535 rfl in_X3 cl_X3 (by decide) C1.1 rfl dX3_doublePoint_8 rfl ?_
  refine ks_bipush (x := nI 9) dX3_doublePoint_11 (by decide) rfl ?_
  refine ks_iconst (x := nI 0) dX3_doublePoint_13 (by decide) rfl ?_
  refine ks_iconst (x := nI 0) dX3_doublePoint_14 (by decide) rfl ?_
  refine ks_callV (n := 3) (M' := mX5_add) (c_cva (d := d) (o := 1) (x := 0) (y := 0) C1 (by decide) (by decide) (by decide) (lt_of_eq9 r1 (mM_lt _ _)) (lt_of_eq9 r1 (mM_lt _ _))) C1.2.1.1 cl_X5 rfl kx_514 kx_515 kx_516 kx_5 kx_517 (by decide +kernel) rfl (by decide) (Nat.le_of_ble_eq_true rfl) rfl dX3_doublePoint_15 rfl (fun z2 T2 y2 => ?_)
  obtain ⟨rfl, u2, C2⟩ := y2
  rw [r1] at C2
  obtain ⟨Q2, s2⟩ : ∃ Q, Q = va_up Q1 1 (aM (mM (R p) (R p)) (mM (R p) (R p))) := ⟨_, rfl⟩
  rw [← s2] at C2
  have r2 : Q2 1 = aM (mM (R p) (R p)) (mM (R p) (R p)) := by rw [s2]; exact va_up_self _ _ _
  have r2_0 : Q2 0 = mM (R p) (R p) := by rw [s2]; exact (va_up_ne _ _ (by decide)).trans r1
  have r2_p : Q2 p = R p := by rw [s2]; exact (va_up_ne _ _ (ne6 p0 (by decide))).trans r1_p
  have r2_p1 : Q2 (p + 1) = R (p + 1) := by rw [s2]; exact (va_up_ne _ _ (ne6 p1 (by decide))).trans r1_p1
  have r2_p2 : Q2 (p + 2) = R (p + 2) := by rw [s2]; exact (va_up_ne _ _ (ne6 p2 (by decide))).trans r1_p2
  have O2 : ∀ j, 6 ≤ j → j ≠ o → j ≠ o + 1 → j ≠ o + 2 → Q2 j = R j := fun j h1 h2 h3 h4 => by rw [s2]; exact (va_up_ne _ _ (ne6 h1 (by decide))).trans (O1 j h1 h2 h3 h4)
  refine ks_aload_n dX3_doublePoint_18 rfl rfl ?_
  refine ks_getf (T := TX3) (kf := 0) kx_535 rfl in_X3 cl_X3 (by decide) C2.1 rfl dX3_doublePoint_19 rfl ?_
  refine ks_iconst (x := nI 0) dX3_doublePoint_22 (by decide) rfl ?_
  refine ks_iconst (x := nI 0) dX3_doublePoint_23 (by decide) rfl ?_
  refine ks_bipush (x := nI 9) dX3_doublePoint_24 (by decide) rfl ?_
  refine ks_callV (n := 3) (M' := mX5_add) (c_cva (d := d) (o := 0) (x := 0) (y := 1) C2 (by decide) (by decide) (by decide) (lt_of_eq9 r2_0 (mM_lt _ _)) (lt_of_eq9 r2 (aM_lt _ _))) C2.2.1.1 cl_X5 rfl kx_514 kx_515 kx_516 kx_5 kx_517 (by decide +kernel) rfl (by decide) (Nat.le_of_ble_eq_true rfl) rfl dX3_doublePoint_26 rfl (fun z3 T3 y3 => ?_)
  obtain ⟨rfl, u3, C3⟩ := y3
  rw [r2_0, r2] at C3
  obtain ⟨Q3, s3⟩ : ∃ Q, Q = va_up Q2 0 (aM (mM (R p) (R p)) (aM (mM (R p) (R p)) (mM (R p) (R p)))) := ⟨_, rfl⟩
  rw [← s3] at C3
  have r3 : Q3 0 = aM (mM (R p) (R p)) (aM (mM (R p) (R p)) (mM (R p) (R p))) := by rw [s3]; exact va_up_self _ _ _
  have r3_p : Q3 p = R p := by rw [s3]; exact (va_up_ne _ _ (ne6 p0 (by decide))).trans r2_p
  have r3_p1 : Q3 (p + 1) = R (p + 1) := by rw [s3]; exact (va_up_ne _ _ (ne6 p1 (by decide))).trans r2_p1
  have r3_p2 : Q3 (p + 2) = R (p + 2) := by rw [s3]; exact (va_up_ne _ _ (ne6 p2 (by decide))).trans r2_p2
  have O3 : ∀ j, 6 ≤ j → j ≠ o → j ≠ o + 1 → j ≠ o + 2 → Q3 j = R j := fun j h1 h2 h3 h4 => by rw [s3]; exact (va_up_ne _ _ (ne6 h1 (by decide))).trans (O2 j h1 h2 h3 h4)
  refine ks_aload_n dX3_doublePoint_29 rfl rfl ?_
  refine ks_bipush (x := nI 9) dX3_doublePoint_30 (by decide) rfl ?_
  refine ks_iload_n dX3_doublePoint_32 rfl rfl ?_
  refine ks_bipush (x := nI 9) dX3_doublePoint_33 (by decide) rfl ?_
  refine ks_addN dX3_doublePoint_35 rfl ?_
  refine ks_iload_n dX3_doublePoint_36 rfl rfl ?_
  refine ks_bipush (x := nI 9) dX3_doublePoint_37 (by decide) rfl ?_
  refine ks_addN dX3_doublePoint_39 rfl ?_
  refine ks_callV (n := 3) (M' := mX3_multiply) (c_cvm (d := d) (o := 1) (x := p + 1) (y := p + 1) C3 (by decide) pb pb (Nat.lt_trans (lt_of_eq9 r3_p1 hyp) pP_lt) (Nat.lt_trans (lt_of_eq9 r3_p1 hyp) pP_lt)) C3.1 cl_X3 rfl kx_502 kx_504 kxp_2 kx_4 kx_505 (by decide +kernel) rfl (by decide) (Nat.le_of_ble_eq_true rfl) rfl dX3_doublePoint_40 rfl (fun z4 T4 y4 => ?_)
  obtain ⟨rfl, u4, C4⟩ := y4
  rw [r3_p1] at C4
  obtain ⟨Q4, s4⟩ : ∃ Q, Q = va_up Q3 1 (mM (R (p + 1)) (R (p + 1))) := ⟨_, rfl⟩
  rw [← s4] at C4
  have r4 : Q4 1 = mM (R (p + 1)) (R (p + 1)) := by rw [s4]; exact va_up_self _ _ _
  have r4_0 : Q4 0 = aM (mM (R p) (R p)) (aM (mM (R p) (R p)) (mM (R p) (R p))) := by rw [s4]; exact (va_up_ne _ _ (by decide)).trans r3
  have r4_p : Q4 p = R p := by rw [s4]; exact (va_up_ne _ _ (ne6 p0 (by decide))).trans r3_p
  have r4_p1 : Q4 (p + 1) = R (p + 1) := by rw [s4]; exact (va_up_ne _ _ (ne6 p1 (by decide))).trans r3_p1
  have r4_p2 : Q4 (p + 2) = R (p + 2) := by rw [s4]; exact (va_up_ne _ _ (ne6 p2 (by decide))).trans r3_p2
  have O4 : ∀ j, 6 ≤ j → j ≠ o → j ≠ o + 1 → j ≠ o + 2 → Q4 j = R j := fun j h1 h2 h3 h4 => by rw [s4]; exact (va_up_ne _ _ (ne6 h1 (by decide))).trans (O3 j h1 h2 h3 h4)
  refine ks_aload_n dX3_doublePoint_43 rfl rfl ?_
  refine ks_getf (T := TX3) (kf := 0) kx_535 rfl in_X3 cl_X3 (by decide) C4.1 rfl dX3_doublePoint_44 rfl ?_
  refine ks_bipush (x := nI 9) dX3_doublePoint_47 (by decide) rfl ?_
  refine ks_bipush (x := nI 9) dX3_doublePoint_49 (by decide) rfl ?_
  refine ks_bipush (x := nI 9) dX3_doublePoint_51 (by decide) rfl ?_
  refine ks_callV (n := 3) (M' := mX5_add) (c_cva (d := d) (o := 1) (x := 1) (y := 1) C4 (by decide) (by decide) (by decide) (lt_of_eq9 r4 (mM_lt _ _)) (lt_of_eq9 r4 (mM_lt _ _))) C4.2.1.1 cl_X5 rfl kx_514 kx_515 kx_516 kx_5 kx_517 (by decide +kernel) rfl (by decide) (Nat.le_of_ble_eq_true rfl) rfl dX3_doublePoint_53 rfl (fun z5 T5 y5 => ?_)
  obtain ⟨rfl, u5, C5⟩ := y5
  rw [r4] at C5
  obtain ⟨Q5, s5⟩ : ∃ Q, Q = va_up Q4 1 (aM (mM (R (p + 1)) (R (p + 1))) (mM (R (p + 1)) (R (p + 1)))) := ⟨_, rfl⟩
  rw [← s5] at C5
  have r5 : Q5 1 = aM (mM (R (p + 1)) (R (p + 1))) (mM (R (p + 1)) (R (p + 1))) := by rw [s5]; exact va_up_self _ _ _
  have r5_0 : Q5 0 = aM (mM (R p) (R p)) (aM (mM (R p) (R p)) (mM (R p) (R p))) := by rw [s5]; exact (va_up_ne _ _ (by decide)).trans r4_0
  have r5_p : Q5 p = R p := by rw [s5]; exact (va_up_ne _ _ (ne6 p0 (by decide))).trans r4_p
  have r5_p1 : Q5 (p + 1) = R (p + 1) := by rw [s5]; exact (va_up_ne _ _ (ne6 p1 (by decide))).trans r4_p1
  have r5_p2 : Q5 (p + 2) = R (p + 2) := by rw [s5]; exact (va_up_ne _ _ (ne6 p2 (by decide))).trans r4_p2
  have O5 : ∀ j, 6 ≤ j → j ≠ o → j ≠ o + 1 → j ≠ o + 2 → Q5 j = R j := fun j h1 h2 h3 h4 => by rw [s5]; exact (va_up_ne _ _ (ne6 h1 (by decide))).trans (O4 j h1 h2 h3 h4)
  refine ks_aload_n dX3_doublePoint_56 rfl rfl ?_
  refine ks_bipush (x := nI 18) dX3_doublePoint_57 (by decide) rfl ?_
  refine ks_iload_n dX3_doublePoint_59 rfl rfl ?_
  refine ks_bipush (x := nI 9) dX3_doublePoint_60 (by decide) rfl ?_
  refine ks_callV (n := 3) (M' := mX3_multiply) (c_cvm (d := d) (o := 2) (x := p) (y := 1) C5 (by decide) pa (by decide) (Nat.lt_trans (lt_of_eq9 r5_p hxp) pP_lt) (Nat.lt_trans (lt_of_eq9 r5 (aM_lt _ _)) pP_lt)) C5.1 cl_X3 rfl kx_502 kx_504 kxp_2 kx_4 kx_505 (by decide +kernel) rfl (by decide) (Nat.le_of_ble_eq_true rfl) rfl dX3_doublePoint_62 rfl (fun z6 T6 y6 => ?_)
  obtain ⟨rfl, u6, C6⟩ := y6
  rw [r5_p, r5] at C6
  obtain ⟨Q6, s6⟩ : ∃ Q, Q = va_up Q5 2 (mM (R p) (aM (mM (R (p + 1)) (R (p + 1))) (mM (R (p + 1)) (R (p + 1))))) := ⟨_, rfl⟩
  rw [← s6] at C6
  have r6 : Q6 2 = mM (R p) (aM (mM (R (p + 1)) (R (p + 1))) (mM (R (p + 1)) (R (p + 1)))) := by rw [s6]; exact va_up_self _ _ _
  have r6_0 : Q6 0 = aM (mM (R p) (R p)) (aM (mM (R p) (R p)) (mM (R p) (R p))) := by rw [s6]; exact (va_up_ne _ _ (by decide)).trans r5_0
  have r6_1 : Q6 1 = aM (mM (R (p + 1)) (R (p + 1))) (mM (R (p + 1)) (R (p + 1))) := by rw [s6]; exact (va_up_ne _ _ (by decide)).trans r5
  have r6_p1 : Q6 (p + 1) = R (p + 1) := by rw [s6]; exact (va_up_ne _ _ (ne6 p1 (by decide))).trans r5_p1
  have r6_p2 : Q6 (p + 2) = R (p + 2) := by rw [s6]; exact (va_up_ne _ _ (ne6 p2 (by decide))).trans r5_p2
  have O6 : ∀ j, 6 ≤ j → j ≠ o → j ≠ o + 1 → j ≠ o + 2 → Q6 j = R j := fun j h1 h2 h3 h4 => by rw [s6]; exact (va_up_ne _ _ (ne6 h1 (by decide))).trans (O5 j h1 h2 h3 h4)
  refine ks_aload_n dX3_doublePoint_65 rfl rfl ?_
  refine ks_getf (T := TX3) (kf := 0) kx_535 rfl in_X3 cl_X3 (by decide) C6.1 rfl dX3_doublePoint_66 rfl ?_
  refine ks_bipush (x := nI 18) dX3_doublePoint_69 (by decide) rfl ?_
  refine ks_bipush (x := nI 18) dX3_doublePoint_71 (by decide) rfl ?_
  refine ks_bipush (x := nI 18) dX3_doublePoint_73 (by decide) rfl ?_
  refine ks_callV (n := 3) (M' := mX5_add) (c_cva (d := d) (o := 2) (x := 2) (y := 2) C6 (by decide) (by decide) (by decide) (lt_of_eq9 r6 (mM_lt _ _)) (lt_of_eq9 r6 (mM_lt _ _))) C6.2.1.1 cl_X5 rfl kx_514 kx_515 kx_516 kx_5 kx_517 (by decide +kernel) rfl (by decide) (Nat.le_of_ble_eq_true rfl) rfl dX3_doublePoint_75 rfl (fun z7 T7 y7 => ?_)
  obtain ⟨rfl, u7, C7⟩ := y7
  rw [r6] at C7
  obtain ⟨Q7, s7⟩ : ∃ Q, Q = va_up Q6 2 (aM (mM (R p) (aM (mM (R (p + 1)) (R (p + 1))) (mM (R (p + 1)) (R (p + 1))))) (mM (R p) (aM (mM (R (p + 1)) (R (p + 1))) (mM (R (p + 1)) (R (p + 1)))))) := ⟨_, rfl⟩
  rw [← s7] at C7
  have r7 : Q7 2 = aM (mM (R p) (aM (mM (R (p + 1)) (R (p + 1))) (mM (R (p + 1)) (R (p + 1))))) (mM (R p) (aM (mM (R (p + 1)) (R (p + 1))) (mM (R (p + 1)) (R (p + 1))))) := by rw [s7]; exact va_up_self _ _ _
  have r7_0 : Q7 0 = aM (mM (R p) (R p)) (aM (mM (R p) (R p)) (mM (R p) (R p))) := by rw [s7]; exact (va_up_ne _ _ (by decide)).trans r6_0
  have r7_1 : Q7 1 = aM (mM (R (p + 1)) (R (p + 1))) (mM (R (p + 1)) (R (p + 1))) := by rw [s7]; exact (va_up_ne _ _ (by decide)).trans r6_1
  have r7_p1 : Q7 (p + 1) = R (p + 1) := by rw [s7]; exact (va_up_ne _ _ (ne6 p1 (by decide))).trans r6_p1
  have r7_p2 : Q7 (p + 2) = R (p + 2) := by rw [s7]; exact (va_up_ne _ _ (ne6 p2 (by decide))).trans r6_p2
  have O7 : ∀ j, 6 ≤ j → j ≠ o → j ≠ o + 1 → j ≠ o + 2 → Q7 j = R j := fun j h1 h2 h3 h4 => by rw [s7]; exact (va_up_ne _ _ (ne6 h1 (by decide))).trans (O6 j h1 h2 h3 h4)
  refine ks_aload_n dX3_doublePoint_78 rfl rfl ?_
  refine ks_bipush (x := nI 27) dX3_doublePoint_79 (by decide) rfl ?_
  refine ks_iload_n dX3_doublePoint_81 rfl rfl ?_
  refine ks_bipush (x := nI 9) dX3_doublePoint_82 (by decide) rfl ?_
  refine ks_addN dX3_doublePoint_84 rfl ?_
  refine ks_iload_n dX3_doublePoint_85 rfl rfl ?_
  refine ks_bipush (x := nI 18) dX3_doublePoint_86 (by decide) rfl ?_
  refine ks_addN dX3_doublePoint_88 rfl ?_
  refine ks_callV (n := 3) (M' := mX3_multiply) (c_cvm (d := d) (o := 3) (x := p + 1) (y := p + 2) C7 (by decide) pb pc (Nat.lt_trans (lt_of_eq9 r7_p1 hyp) pP_lt) (Nat.lt_trans (lt_of_eq9 r7_p2 hzp) pP_lt)) C7.1 cl_X3 rfl kx_502 kx_504 kxp_2 kx_4 kx_505 (by decide +kernel) rfl (by decide) (Nat.le_of_ble_eq_true rfl) rfl dX3_doublePoint_89 rfl (fun z8 T8 y8 => ?_)
  obtain ⟨rfl, u8, C8⟩ := y8
  rw [r7_p1, r7_p2] at C8
  obtain ⟨Q8, s8⟩ : ∃ Q, Q = va_up Q7 3 (mM (R (p + 1)) (R (p + 2))) := ⟨_, rfl⟩
  rw [← s8] at C8
  have r8 : Q8 3 = mM (R (p + 1)) (R (p + 2)) := by rw [s8]; exact va_up_self _ _ _
  have r8_0 : Q8 0 = aM (mM (R p) (R p)) (aM (mM (R p) (R p)) (mM (R p) (R p))) := by rw [s8]; exact (va_up_ne _ _ (by decide)).trans r7_0
  have r8_1 : Q8 1 = aM (mM (R (p + 1)) (R (p + 1))) (mM (R (p + 1)) (R (p + 1))) := by rw [s8]; exact (va_up_ne _ _ (by decide)).trans r7_1
  have r8_2 : Q8 2 = aM (mM (R p) (aM (mM (R (p + 1)) (R (p + 1))) (mM (R (p + 1)) (R (p + 1))))) (mM (R p) (aM (mM (R (p + 1)) (R (p + 1))) (mM (R (p + 1)) (R (p + 1))))) := by rw [s8]; exact (va_up_ne _ _ (by decide)).trans r7
  have O8 : ∀ j, 6 ≤ j → j ≠ o → j ≠ o + 1 → j ≠ o + 2 → Q8 j = R j := fun j h1 h2 h3 h4 => by rw [s8]; exact (va_up_ne _ _ (ne6 h1 (by decide))).trans (O7 j h1 h2 h3 h4)
  refine ks_aload_n dX3_doublePoint_92 rfl rfl ?_
  refine ks_getf (T := TX3) (kf := 0) kx_535 rfl in_X3 cl_X3 (by decide) C8.1 rfl dX3_doublePoint_93 rfl ?_
  refine ks_iload_n dX3_doublePoint_96 rfl rfl ?_
  refine ks_bipush (x := nI 18) dX3_doublePoint_97 (by decide) rfl ?_
  refine ks_addN dX3_doublePoint_99 rfl ?_
  refine ks_bipush (x := nI 27) dX3_doublePoint_100 (by decide) rfl ?_
  refine ks_bipush (x := nI 27) dX3_doublePoint_102 (by decide) rfl ?_
  refine ks_callV (n := 3) (M' := mX5_add) (c_cva (d := d) (o := o + 2) (x := 3) (y := 3) C8 oc (by decide) (by decide) (lt_of_eq9 r8 (mM_lt _ _)) (lt_of_eq9 r8 (mM_lt _ _))) C8.2.1.1 cl_X5 rfl kx_514 kx_515 kx_516 kx_5 kx_517 (by decide +kernel) rfl (by decide) (Nat.le_of_ble_eq_true rfl) rfl dX3_doublePoint_104 rfl (fun z9 T9 y9 => ?_)
  obtain ⟨rfl, u9, C9⟩ := y9
  rw [r8] at C9
  obtain ⟨Q9, s9⟩ : ∃ Q, Q = va_up Q8 (o + 2) (aM (mM (R (p + 1)) (R (p + 2))) (mM (R (p + 1)) (R (p + 2)))) := ⟨_, rfl⟩
  rw [← s9] at C9
  have r9 : Q9 (o + 2) = aM (mM (R (p + 1)) (R (p + 2))) (mM (R (p + 1)) (R (p + 2))) := by rw [s9]; exact va_up_self _ _ _
  have r9_0 : Q9 0 = aM (mM (R p) (R p)) (aM (mM (R p) (R p)) (mM (R p) (R p))) := by rw [s9]; exact (va_up_ne _ _ (Ne.symm (ne6 o2 (by decide)))).trans r8_0
  have r9_1 : Q9 1 = aM (mM (R (p + 1)) (R (p + 1))) (mM (R (p + 1)) (R (p + 1))) := by rw [s9]; exact (va_up_ne _ _ (Ne.symm (ne6 o2 (by decide)))).trans r8_1
  have r9_2 : Q9 2 = aM (mM (R p) (aM (mM (R (p + 1)) (R (p + 1))) (mM (R (p + 1)) (R (p + 1))))) (mM (R p) (aM (mM (R (p + 1)) (R (p + 1))) (mM (R (p + 1)) (R (p + 1))))) := by rw [s9]; exact (va_up_ne _ _ (Ne.symm (ne6 o2 (by decide)))).trans r8_2
  have O9 : ∀ j, 6 ≤ j → j ≠ o → j ≠ o + 1 → j ≠ o + 2 → Q9 j = R j := fun j h1 h2 h3 h4 => by rw [s9]; exact (va_up_ne _ _ h4).trans (O8 j h1 h2 h3 h4)
  refine ks_aload_n dX3_doublePoint_107 rfl rfl ?_
  refine ks_bipush (x := nI 9) dX3_doublePoint_108 (by decide) rfl ?_
  refine ks_bipush (x := nI 9) dX3_doublePoint_110 (by decide) rfl ?_
  refine ks_bipush (x := nI 9) dX3_doublePoint_112 (by decide) rfl ?_
  refine ks_callV (n := 3) (M' := mX3_multiply) (c_cvm (d := d) (o := 1) (x := 1) (y := 1) C9 (by decide) (by decide) (by decide) (Nat.lt_trans (lt_of_eq9 r9_1 (aM_lt _ _)) pP_lt) (Nat.lt_trans (lt_of_eq9 r9_1 (aM_lt _ _)) pP_lt)) C9.1 cl_X3 rfl kx_502 kx_504 kxp_2 kx_4 kx_505 (by decide +kernel) rfl (by decide) (Nat.le_of_ble_eq_true rfl) rfl dX3_doublePoint_114 rfl (fun z10 T10 y10 => ?_)
  obtain ⟨rfl, u10, C10⟩ := y10
  rw [r9_1] at C10
  obtain ⟨Q10, s10⟩ : ∃ Q, Q = va_up Q9 1 (mM (aM (mM (R (p + 1)) (R (p + 1))) (mM (R (p + 1)) (R (p + 1)))) (aM (mM (R (p + 1)) (R (p + 1))) (mM (R (p + 1)) (R (p + 1))))) := ⟨_, rfl⟩
  rw [← s10] at C10
  have r10 : Q10 1 = mM (aM (mM (R (p + 1)) (R (p + 1))) (mM (R (p + 1)) (R (p + 1)))) (aM (mM (R (p + 1)) (R (p + 1))) (mM (R (p + 1)) (R (p + 1)))) := by rw [s10]; exact va_up_self _ _ _
  have r10_0 : Q10 0 = aM (mM (R p) (R p)) (aM (mM (R p) (R p)) (mM (R p) (R p))) := by rw [s10]; exact (va_up_ne _ _ (by decide)).trans r9_0
  have r10_2 : Q10 2 = aM (mM (R p) (aM (mM (R (p + 1)) (R (p + 1))) (mM (R (p + 1)) (R (p + 1))))) (mM (R p) (aM (mM (R (p + 1)) (R (p + 1))) (mM (R (p + 1)) (R (p + 1))))) := by rw [s10]; exact (va_up_ne _ _ (by decide)).trans r9_2
  have r10_o2 : Q10 (o + 2) = aM (mM (R (p + 1)) (R (p + 2))) (mM (R (p + 1)) (R (p + 2))) := by rw [s10]; exact (va_up_ne _ _ (ne6 o2 (by decide))).trans r9
  have O10 : ∀ j, 6 ≤ j → j ≠ o → j ≠ o + 1 → j ≠ o + 2 → Q10 j = R j := fun j h1 h2 h3 h4 => by rw [s10]; exact (va_up_ne _ _ (ne6 h1 (by decide))).trans (O9 j h1 h2 h3 h4)
  refine ks_aload_n dX3_doublePoint_117 rfl rfl ?_
  refine ks_getf (T := TX3) (kf := 0) kx_535 rfl in_X3 cl_X3 (by decide) C10.1 rfl dX3_doublePoint_118 rfl ?_
  refine ks_bipush (x := nI 9) dX3_doublePoint_121 (by decide) rfl ?_
  refine ks_bipush (x := nI 9) dX3_doublePoint_123 (by decide) rfl ?_
  refine ks_bipush (x := nI 9) dX3_doublePoint_125 (by decide) rfl ?_
  refine ks_callV (n := 3) (M' := mX5_add) (c_cva (d := d) (o := 1) (x := 1) (y := 1) C10 (by decide) (by decide) (by decide) (lt_of_eq9 r10 (mM_lt _ _)) (lt_of_eq9 r10 (mM_lt _ _))) C10.2.1.1 cl_X5 rfl kx_514 kx_515 kx_516 kx_5 kx_517 (by decide +kernel) rfl (by decide) (Nat.le_of_ble_eq_true rfl) rfl dX3_doublePoint_127 rfl (fun z11 T11 y11 => ?_)
  obtain ⟨rfl, u11, C11⟩ := y11
  rw [r10] at C11
  obtain ⟨Q11, s11⟩ : ∃ Q, Q = va_up Q10 1 (aM (mM (aM (mM (R (p + 1)) (R (p + 1))) (mM (R (p + 1)) (R (p + 1)))) (aM (mM (R (p + 1)) (R (p + 1))) (mM (R (p + 1)) (R (p + 1))))) (mM (aM (mM (R (p + 1)) (R (p + 1))) (mM (R (p + 1)) (R (p + 1)))) (aM (mM (R (p + 1)) (R (p + 1))) (mM (R (p + 1)) (R (p + 1)))))) := ⟨_, rfl⟩
  rw [← s11] at C11
  have r11 : Q11 1 = aM (mM (aM (mM (R (p + 1)) (R (p + 1))) (mM (R (p + 1)) (R (p + 1)))) (aM (mM (R (p + 1)) (R (p + 1))) (mM (R (p + 1)) (R (p + 1))))) (mM (aM (mM (R (p + 1)) (R (p + 1))) (mM (R (p + 1)) (R (p + 1)))) (aM (mM (R (p + 1)) (R (p + 1))) (mM (R (p + 1)) (R (p + 1))))) := by rw [s11]; exact va_up_self _ _ _
  have r11_0 : Q11 0 = aM (mM (R p) (R p)) (aM (mM (R p) (R p)) (mM (R p) (R p))) := by rw [s11]; exact (va_up_ne _ _ (by decide)).trans r10_0
  have r11_2 : Q11 2 = aM (mM (R p) (aM (mM (R (p + 1)) (R (p + 1))) (mM (R (p + 1)) (R (p + 1))))) (mM (R p) (aM (mM (R (p + 1)) (R (p + 1))) (mM (R (p + 1)) (R (p + 1))))) := by rw [s11]; exact (va_up_ne _ _ (by decide)).trans r10_2
  have r11_o2 : Q11 (o + 2) = aM (mM (R (p + 1)) (R (p + 2))) (mM (R (p + 1)) (R (p + 2))) := by rw [s11]; exact (va_up_ne _ _ (ne6 o2 (by decide))).trans r10_o2
  have O11 : ∀ j, 6 ≤ j → j ≠ o → j ≠ o + 1 → j ≠ o + 2 → Q11 j = R j := fun j h1 h2 h3 h4 => by rw [s11]; exact (va_up_ne _ _ (ne6 h1 (by decide))).trans (O10 j h1 h2 h3 h4)
  refine ks_aload_n dX3_doublePoint_130 rfl rfl ?_
  refine ks_bipush (x := nI 27) dX3_doublePoint_131 (by decide) rfl ?_
  refine ks_iconst (x := nI 0) dX3_doublePoint_133 (by decide) rfl ?_
  refine ks_iconst (x := nI 0) dX3_doublePoint_134 (by decide) rfl ?_
  refine ks_callV (n := 3) (M' := mX3_multiply) (c_cvm (d := d) (o := 3) (x := 0) (y := 0) C11 (by decide) (by decide) (by decide) (Nat.lt_trans (lt_of_eq9 r11_0 (aM_lt _ _)) pP_lt) (Nat.lt_trans (lt_of_eq9 r11_0 (aM_lt _ _)) pP_lt)) C11.1 cl_X3 rfl kx_502 kx_504 kxp_2 kx_4 kx_505 (by decide +kernel) rfl (by decide) (Nat.le_of_ble_eq_true rfl) rfl dX3_doublePoint_135 rfl (fun z12 T12 y12 => ?_)
  obtain ⟨rfl, u12, C12⟩ := y12
  rw [r11_0] at C12
  obtain ⟨Q12, s12⟩ : ∃ Q, Q = va_up Q11 3 (mM (aM (mM (R p) (R p)) (aM (mM (R p) (R p)) (mM (R p) (R p)))) (aM (mM (R p) (R p)) (aM (mM (R p) (R p)) (mM (R p) (R p))))) := ⟨_, rfl⟩
  rw [← s12] at C12
  have r12 : Q12 3 = mM (aM (mM (R p) (R p)) (aM (mM (R p) (R p)) (mM (R p) (R p)))) (aM (mM (R p) (R p)) (aM (mM (R p) (R p)) (mM (R p) (R p)))) := by rw [s12]; exact va_up_self _ _ _
  have r12_0 : Q12 0 = aM (mM (R p) (R p)) (aM (mM (R p) (R p)) (mM (R p) (R p))) := by rw [s12]; exact (va_up_ne _ _ (by decide)).trans r11_0
  have r12_1 : Q12 1 = aM (mM (aM (mM (R (p + 1)) (R (p + 1))) (mM (R (p + 1)) (R (p + 1)))) (aM (mM (R (p + 1)) (R (p + 1))) (mM (R (p + 1)) (R (p + 1))))) (mM (aM (mM (R (p + 1)) (R (p + 1))) (mM (R (p + 1)) (R (p + 1)))) (aM (mM (R (p + 1)) (R (p + 1))) (mM (R (p + 1)) (R (p + 1))))) := by rw [s12]; exact (va_up_ne _ _ (by decide)).trans r11
  have r12_2 : Q12 2 = aM (mM (R p) (aM (mM (R (p + 1)) (R (p + 1))) (mM (R (p + 1)) (R (p + 1))))) (mM (R p) (aM (mM (R (p + 1)) (R (p + 1))) (mM (R (p + 1)) (R (p + 1))))) := by rw [s12]; exact (va_up_ne _ _ (by decide)).trans r11_2
  have r12_o2 : Q12 (o + 2) = aM (mM (R (p + 1)) (R (p + 2))) (mM (R (p + 1)) (R (p + 2))) := by rw [s12]; exact (va_up_ne _ _ (ne6 o2 (by decide))).trans r11_o2
  have O12 : ∀ j, 6 ≤ j → j ≠ o → j ≠ o + 1 → j ≠ o + 2 → Q12 j = R j := fun j h1 h2 h3 h4 => by rw [s12]; exact (va_up_ne _ _ (ne6 h1 (by decide))).trans (O11 j h1 h2 h3 h4)
  refine ks_aload_n dX3_doublePoint_138 rfl rfl ?_
  refine ks_getf (T := TX3) (kf := 0) kx_535 rfl in_X3 cl_X3 (by decide) C12.1 rfl dX3_doublePoint_139 rfl ?_
  refine ks_bipush (x := nI 27) dX3_doublePoint_142 (by decide) rfl ?_
  refine ks_bipush (x := nI 27) dX3_doublePoint_144 (by decide) rfl ?_
  refine ks_bipush (x := nI 18) dX3_doublePoint_146 (by decide) rfl ?_
  refine ks_callV (n := 3) (M' := mX5_subtract) (c_cvs (d := d) (o := 3) (x := 3) (y := 2) C12 (by decide) (by decide) (by decide) (lt_of_eq9 r12 (mM_lt _ _)) (lt_of_eq9 r12_2 (aM_lt _ _))) C12.2.1.1 cl_X5 rfl kx_518 kx_519 kx_520 kx_5 kx_521 (by decide +kernel) rfl (by decide) (Nat.le_of_ble_eq_true rfl) rfl dX3_doublePoint_148 rfl (fun z13 T13 y13 => ?_)
  obtain ⟨rfl, u13, C13⟩ := y13
  rw [r12, r12_2] at C13
  obtain ⟨Q13, s13⟩ : ∃ Q, Q = va_up Q12 3 (sM (mM (aM (mM (R p) (R p)) (aM (mM (R p) (R p)) (mM (R p) (R p)))) (aM (mM (R p) (R p)) (aM (mM (R p) (R p)) (mM (R p) (R p))))) (aM (mM (R p) (aM (mM (R (p + 1)) (R (p + 1))) (mM (R (p + 1)) (R (p + 1))))) (mM (R p) (aM (mM (R (p + 1)) (R (p + 1))) (mM (R (p + 1)) (R (p + 1))))))) := ⟨_, rfl⟩
  rw [← s13] at C13
  have r13 : Q13 3 = sM (mM (aM (mM (R p) (R p)) (aM (mM (R p) (R p)) (mM (R p) (R p)))) (aM (mM (R p) (R p)) (aM (mM (R p) (R p)) (mM (R p) (R p))))) (aM (mM (R p) (aM (mM (R (p + 1)) (R (p + 1))) (mM (R (p + 1)) (R (p + 1))))) (mM (R p) (aM (mM (R (p + 1)) (R (p + 1))) (mM (R (p + 1)) (R (p + 1)))))) := by rw [s13]; exact va_up_self _ _ _
  have r13_0 : Q13 0 = aM (mM (R p) (R p)) (aM (mM (R p) (R p)) (mM (R p) (R p))) := by rw [s13]; exact (va_up_ne _ _ (by decide)).trans r12_0
  have r13_1 : Q13 1 = aM (mM (aM (mM (R (p + 1)) (R (p + 1))) (mM (R (p + 1)) (R (p + 1)))) (aM (mM (R (p + 1)) (R (p + 1))) (mM (R (p + 1)) (R (p + 1))))) (mM (aM (mM (R (p + 1)) (R (p + 1))) (mM (R (p + 1)) (R (p + 1)))) (aM (mM (R (p + 1)) (R (p + 1))) (mM (R (p + 1)) (R (p + 1))))) := by rw [s13]; exact (va_up_ne _ _ (by decide)).trans r12_1
  have r13_2 : Q13 2 = aM (mM (R p) (aM (mM (R (p + 1)) (R (p + 1))) (mM (R (p + 1)) (R (p + 1))))) (mM (R p) (aM (mM (R (p + 1)) (R (p + 1))) (mM (R (p + 1)) (R (p + 1))))) := by rw [s13]; exact (va_up_ne _ _ (by decide)).trans r12_2
  have r13_o2 : Q13 (o + 2) = aM (mM (R (p + 1)) (R (p + 2))) (mM (R (p + 1)) (R (p + 2))) := by rw [s13]; exact (va_up_ne _ _ (ne6 o2 (by decide))).trans r12_o2
  have O13 : ∀ j, 6 ≤ j → j ≠ o → j ≠ o + 1 → j ≠ o + 2 → Q13 j = R j := fun j h1 h2 h3 h4 => by rw [s13]; exact (va_up_ne _ _ (ne6 h1 (by decide))).trans (O12 j h1 h2 h3 h4)
  refine ks_aload_n dX3_doublePoint_151 rfl rfl ?_
  refine ks_getf (T := TX3) (kf := 0) kx_535 rfl in_X3 cl_X3 (by decide) C13.1 rfl dX3_doublePoint_152 rfl ?_
  refine ks_iload_n dX3_doublePoint_155 rfl rfl ?_
  refine ks_bipush (x := nI 27) dX3_doublePoint_156 (by decide) rfl ?_
  refine ks_bipush (x := nI 18) dX3_doublePoint_158 (by decide) rfl ?_
  refine ks_callV (n := 3) (M' := mX5_subtract) (c_cvs (d := d) (o := o) (x := 3) (y := 2) C13 oa (by decide) (by decide) (lt_of_eq9 r13 (sM_lt _ _)) (lt_of_eq9 r13_2 (aM_lt _ _))) C13.2.1.1 cl_X5 rfl kx_518 kx_519 kx_520 kx_5 kx_521 (by decide +kernel) rfl (by decide) (Nat.le_of_ble_eq_true rfl) rfl dX3_doublePoint_160 rfl (fun z14 T14 y14 => ?_)
  obtain ⟨rfl, u14, C14⟩ := y14
  rw [r13, r13_2] at C14
  obtain ⟨Q14, s14⟩ : ∃ Q, Q = va_up Q13 o (sM (sM (mM (aM (mM (R p) (R p)) (aM (mM (R p) (R p)) (mM (R p) (R p)))) (aM (mM (R p) (R p)) (aM (mM (R p) (R p)) (mM (R p) (R p))))) (aM (mM (R p) (aM (mM (R (p + 1)) (R (p + 1))) (mM (R (p + 1)) (R (p + 1))))) (mM (R p) (aM (mM (R (p + 1)) (R (p + 1))) (mM (R (p + 1)) (R (p + 1))))))) (aM (mM (R p) (aM (mM (R (p + 1)) (R (p + 1))) (mM (R (p + 1)) (R (p + 1))))) (mM (R p) (aM (mM (R (p + 1)) (R (p + 1))) (mM (R (p + 1)) (R (p + 1))))))) := ⟨_, rfl⟩
  rw [← s14] at C14
  have r14 : Q14 o = sM (sM (mM (aM (mM (R p) (R p)) (aM (mM (R p) (R p)) (mM (R p) (R p)))) (aM (mM (R p) (R p)) (aM (mM (R p) (R p)) (mM (R p) (R p))))) (aM (mM (R p) (aM (mM (R (p + 1)) (R (p + 1))) (mM (R (p + 1)) (R (p + 1))))) (mM (R p) (aM (mM (R (p + 1)) (R (p + 1))) (mM (R (p + 1)) (R (p + 1))))))) (aM (mM (R p) (aM (mM (R (p + 1)) (R (p + 1))) (mM (R (p + 1)) (R (p + 1))))) (mM (R p) (aM (mM (R (p + 1)) (R (p + 1))) (mM (R (p + 1)) (R (p + 1)))))) := by rw [s14]; exact va_up_self _ _ _
  have r14_0 : Q14 0 = aM (mM (R p) (R p)) (aM (mM (R p) (R p)) (mM (R p) (R p))) := by rw [s14]; exact (va_up_ne _ _ (Ne.symm (ne6 o0 (by decide)))).trans r13_0
  have r14_1 : Q14 1 = aM (mM (aM (mM (R (p + 1)) (R (p + 1))) (mM (R (p + 1)) (R (p + 1)))) (aM (mM (R (p + 1)) (R (p + 1))) (mM (R (p + 1)) (R (p + 1))))) (mM (aM (mM (R (p + 1)) (R (p + 1))) (mM (R (p + 1)) (R (p + 1)))) (aM (mM (R (p + 1)) (R (p + 1))) (mM (R (p + 1)) (R (p + 1))))) := by rw [s14]; exact (va_up_ne _ _ (Ne.symm (ne6 o0 (by decide)))).trans r13_1
  have r14_2 : Q14 2 = aM (mM (R p) (aM (mM (R (p + 1)) (R (p + 1))) (mM (R (p + 1)) (R (p + 1))))) (mM (R p) (aM (mM (R (p + 1)) (R (p + 1))) (mM (R (p + 1)) (R (p + 1))))) := by rw [s14]; exact (va_up_ne _ _ (Ne.symm (ne6 o0 (by decide)))).trans r13_2
  have r14_o2 : Q14 (o + 2) = aM (mM (R (p + 1)) (R (p + 2))) (mM (R (p + 1)) (R (p + 2))) := by rw [s14]; exact (va_up_ne _ _ (Ne.symm n02)).trans r13_o2
  have O14 : ∀ j, 6 ≤ j → j ≠ o → j ≠ o + 1 → j ≠ o + 2 → Q14 j = R j := fun j h1 h2 h3 h4 => by rw [s14]; exact (va_up_ne _ _ h2).trans (O13 j h1 h2 h3 h4)
  refine ks_aload_n dX3_doublePoint_163 rfl rfl ?_
  refine ks_getf (T := TX3) (kf := 0) kx_535 rfl in_X3 cl_X3 (by decide) C14.1 rfl dX3_doublePoint_164 rfl ?_
  refine ks_bipush (x := nI 18) dX3_doublePoint_167 (by decide) rfl ?_
  refine ks_bipush (x := nI 18) dX3_doublePoint_169 (by decide) rfl ?_
  refine ks_iload_n dX3_doublePoint_171 rfl rfl ?_
  refine ks_callV (n := 3) (M' := mX5_subtract) (c_cvs (d := d) (o := 2) (x := 2) (y := o) C14 (by decide) (by decide) (Nat.lt_trans oa (by decide)) (lt_of_eq9 r14_2 (aM_lt _ _)) (lt_of_eq9 r14 (sM_lt _ _))) C14.2.1.1 cl_X5 rfl kx_518 kx_519 kx_520 kx_5 kx_521 (by decide +kernel) rfl (by decide) (Nat.le_of_ble_eq_true rfl) rfl dX3_doublePoint_172 rfl (fun z15 T15 y15 => ?_)
  obtain ⟨rfl, u15, C15⟩ := y15
  rw [r14_2, r14] at C15
  obtain ⟨Q15, s15⟩ : ∃ Q, Q = va_up Q14 2 (sM (aM (mM (R p) (aM (mM (R (p + 1)) (R (p + 1))) (mM (R (p + 1)) (R (p + 1))))) (mM (R p) (aM (mM (R (p + 1)) (R (p + 1))) (mM (R (p + 1)) (R (p + 1)))))) (sM (sM (mM (aM (mM (R p) (R p)) (aM (mM (R p) (R p)) (mM (R p) (R p)))) (aM (mM (R p) (R p)) (aM (mM (R p) (R p)) (mM (R p) (R p))))) (aM (mM (R p) (aM (mM (R (p + 1)) (R (p + 1))) (mM (R (p + 1)) (R (p + 1))))) (mM (R p) (aM (mM (R (p + 1)) (R (p + 1))) (mM (R (p + 1)) (R (p + 1))))))) (aM (mM (R p) (aM (mM (R (p + 1)) (R (p + 1))) (mM (R (p + 1)) (R (p + 1))))) (mM (R p) (aM (mM (R (p + 1)) (R (p + 1))) (mM (R (p + 1)) (R (p + 1)))))))) := ⟨_, rfl⟩
  rw [← s15] at C15
  have r15 : Q15 2 = sM (aM (mM (R p) (aM (mM (R (p + 1)) (R (p + 1))) (mM (R (p + 1)) (R (p + 1))))) (mM (R p) (aM (mM (R (p + 1)) (R (p + 1))) (mM (R (p + 1)) (R (p + 1)))))) (sM (sM (mM (aM (mM (R p) (R p)) (aM (mM (R p) (R p)) (mM (R p) (R p)))) (aM (mM (R p) (R p)) (aM (mM (R p) (R p)) (mM (R p) (R p))))) (aM (mM (R p) (aM (mM (R (p + 1)) (R (p + 1))) (mM (R (p + 1)) (R (p + 1))))) (mM (R p) (aM (mM (R (p + 1)) (R (p + 1))) (mM (R (p + 1)) (R (p + 1))))))) (aM (mM (R p) (aM (mM (R (p + 1)) (R (p + 1))) (mM (R (p + 1)) (R (p + 1))))) (mM (R p) (aM (mM (R (p + 1)) (R (p + 1))) (mM (R (p + 1)) (R (p + 1))))))) := by rw [s15]; exact va_up_self _ _ _
  have r15_0 : Q15 0 = aM (mM (R p) (R p)) (aM (mM (R p) (R p)) (mM (R p) (R p))) := by rw [s15]; exact (va_up_ne _ _ (by decide)).trans r14_0
  have r15_1 : Q15 1 = aM (mM (aM (mM (R (p + 1)) (R (p + 1))) (mM (R (p + 1)) (R (p + 1)))) (aM (mM (R (p + 1)) (R (p + 1))) (mM (R (p + 1)) (R (p + 1))))) (mM (aM (mM (R (p + 1)) (R (p + 1))) (mM (R (p + 1)) (R (p + 1)))) (aM (mM (R (p + 1)) (R (p + 1))) (mM (R (p + 1)) (R (p + 1))))) := by rw [s15]; exact (va_up_ne _ _ (by decide)).trans r14_1
  have r15_o : Q15 o = sM (sM (mM (aM (mM (R p) (R p)) (aM (mM (R p) (R p)) (mM (R p) (R p)))) (aM (mM (R p) (R p)) (aM (mM (R p) (R p)) (mM (R p) (R p))))) (aM (mM (R p) (aM (mM (R (p + 1)) (R (p + 1))) (mM (R (p + 1)) (R (p + 1))))) (mM (R p) (aM (mM (R (p + 1)) (R (p + 1))) (mM (R (p + 1)) (R (p + 1))))))) (aM (mM (R p) (aM (mM (R (p + 1)) (R (p + 1))) (mM (R (p + 1)) (R (p + 1))))) (mM (R p) (aM (mM (R (p + 1)) (R (p + 1))) (mM (R (p + 1)) (R (p + 1)))))) := by rw [s15]; exact (va_up_ne _ _ (ne6 o0 (by decide))).trans r14
  have r15_o2 : Q15 (o + 2) = aM (mM (R (p + 1)) (R (p + 2))) (mM (R (p + 1)) (R (p + 2))) := by rw [s15]; exact (va_up_ne _ _ (ne6 o2 (by decide))).trans r14_o2
  have O15 : ∀ j, 6 ≤ j → j ≠ o → j ≠ o + 1 → j ≠ o + 2 → Q15 j = R j := fun j h1 h2 h3 h4 => by rw [s15]; exact (va_up_ne _ _ (ne6 h1 (by decide))).trans (O14 j h1 h2 h3 h4)
  refine ks_aload_n dX3_doublePoint_175 rfl rfl ?_
  refine ks_bipush (x := nI 18) dX3_doublePoint_176 (by decide) rfl ?_
  refine ks_bipush (x := nI 18) dX3_doublePoint_178 (by decide) rfl ?_
  refine ks_iconst (x := nI 0) dX3_doublePoint_180 (by decide) rfl ?_
  refine ks_callV (n := 3) (M' := mX3_multiply) (c_cvm (d := d) (o := 2) (x := 2) (y := 0) C15 (by decide) (by decide) (by decide) (Nat.lt_trans (lt_of_eq9 r15 (sM_lt _ _)) pP_lt) (Nat.lt_trans (lt_of_eq9 r15_0 (aM_lt _ _)) pP_lt)) C15.1 cl_X3 rfl kx_502 kx_504 kxp_2 kx_4 kx_505 (by decide +kernel) rfl (by decide) (Nat.le_of_ble_eq_true rfl) rfl dX3_doublePoint_181 rfl (fun z16 T16 y16 => ?_)
  obtain ⟨rfl, u16, C16⟩ := y16
  rw [r15, r15_0] at C16
  obtain ⟨Q16, s16⟩ : ∃ Q, Q = va_up Q15 2 (mM (sM (aM (mM (R p) (aM (mM (R (p + 1)) (R (p + 1))) (mM (R (p + 1)) (R (p + 1))))) (mM (R p) (aM (mM (R (p + 1)) (R (p + 1))) (mM (R (p + 1)) (R (p + 1)))))) (sM (sM (mM (aM (mM (R p) (R p)) (aM (mM (R p) (R p)) (mM (R p) (R p)))) (aM (mM (R p) (R p)) (aM (mM (R p) (R p)) (mM (R p) (R p))))) (aM (mM (R p) (aM (mM (R (p + 1)) (R (p + 1))) (mM (R (p + 1)) (R (p + 1))))) (mM (R p) (aM (mM (R (p + 1)) (R (p + 1))) (mM (R (p + 1)) (R (p + 1))))))) (aM (mM (R p) (aM (mM (R (p + 1)) (R (p + 1))) (mM (R (p + 1)) (R (p + 1))))) (mM (R p) (aM (mM (R (p + 1)) (R (p + 1))) (mM (R (p + 1)) (R (p + 1)))))))) (aM (mM (R p) (R p)) (aM (mM (R p) (R p)) (mM (R p) (R p))))) := ⟨_, rfl⟩
  rw [← s16] at C16
  have r16 : Q16 2 = mM (sM (aM (mM (R p) (aM (mM (R (p + 1)) (R (p + 1))) (mM (R (p + 1)) (R (p + 1))))) (mM (R p) (aM (mM (R (p + 1)) (R (p + 1))) (mM (R (p + 1)) (R (p + 1)))))) (sM (sM (mM (aM (mM (R p) (R p)) (aM (mM (R p) (R p)) (mM (R p) (R p)))) (aM (mM (R p) (R p)) (aM (mM (R p) (R p)) (mM (R p) (R p))))) (aM (mM (R p) (aM (mM (R (p + 1)) (R (p + 1))) (mM (R (p + 1)) (R (p + 1))))) (mM (R p) (aM (mM (R (p + 1)) (R (p + 1))) (mM (R (p + 1)) (R (p + 1))))))) (aM (mM (R p) (aM (mM (R (p + 1)) (R (p + 1))) (mM (R (p + 1)) (R (p + 1))))) (mM (R p) (aM (mM (R (p + 1)) (R (p + 1))) (mM (R (p + 1)) (R (p + 1)))))))) (aM (mM (R p) (R p)) (aM (mM (R p) (R p)) (mM (R p) (R p)))) := by rw [s16]; exact va_up_self _ _ _
  have r16_1 : Q16 1 = aM (mM (aM (mM (R (p + 1)) (R (p + 1))) (mM (R (p + 1)) (R (p + 1)))) (aM (mM (R (p + 1)) (R (p + 1))) (mM (R (p + 1)) (R (p + 1))))) (mM (aM (mM (R (p + 1)) (R (p + 1))) (mM (R (p + 1)) (R (p + 1)))) (aM (mM (R (p + 1)) (R (p + 1))) (mM (R (p + 1)) (R (p + 1))))) := by rw [s16]; exact (va_up_ne _ _ (by decide)).trans r15_1
  have r16_o : Q16 o = sM (sM (mM (aM (mM (R p) (R p)) (aM (mM (R p) (R p)) (mM (R p) (R p)))) (aM (mM (R p) (R p)) (aM (mM (R p) (R p)) (mM (R p) (R p))))) (aM (mM (R p) (aM (mM (R (p + 1)) (R (p + 1))) (mM (R (p + 1)) (R (p + 1))))) (mM (R p) (aM (mM (R (p + 1)) (R (p + 1))) (mM (R (p + 1)) (R (p + 1))))))) (aM (mM (R p) (aM (mM (R (p + 1)) (R (p + 1))) (mM (R (p + 1)) (R (p + 1))))) (mM (R p) (aM (mM (R (p + 1)) (R (p + 1))) (mM (R (p + 1)) (R (p + 1)))))) := by rw [s16]; exact (va_up_ne _ _ (ne6 o0 (by decide))).trans r15_o
  have r16_o2 : Q16 (o + 2) = aM (mM (R (p + 1)) (R (p + 2))) (mM (R (p + 1)) (R (p + 2))) := by rw [s16]; exact (va_up_ne _ _ (ne6 o2 (by decide))).trans r15_o2
  have O16 : ∀ j, 6 ≤ j → j ≠ o → j ≠ o + 1 → j ≠ o + 2 → Q16 j = R j := fun j h1 h2 h3 h4 => by rw [s16]; exact (va_up_ne _ _ (ne6 h1 (by decide))).trans (O15 j h1 h2 h3 h4)
  refine ks_aload_n dX3_doublePoint_184 rfl rfl ?_
  refine ks_getf (T := TX3) (kf := 0) kx_535 rfl in_X3 cl_X3 (by decide) C16.1 rfl dX3_doublePoint_185 rfl ?_
  refine ks_iload_n dX3_doublePoint_188 rfl rfl ?_
  refine ks_bipush (x := nI 9) dX3_doublePoint_189 (by decide) rfl ?_
  refine ks_addN dX3_doublePoint_191 rfl ?_
  refine ks_bipush (x := nI 18) dX3_doublePoint_192 (by decide) rfl ?_
  refine ks_bipush (x := nI 9) dX3_doublePoint_194 (by decide) rfl ?_
  refine ks_callV (n := 3) (M' := mX5_subtract) (c_cvs (d := d) (o := o + 1) (x := 2) (y := 1) C16 ob (by decide) (by decide) (lt_of_eq9 r16 (mM_lt _ _)) (lt_of_eq9 r16_1 (aM_lt _ _))) C16.2.1.1 cl_X5 rfl kx_518 kx_519 kx_520 kx_5 kx_521 (by decide +kernel) rfl (by decide) (Nat.le_of_ble_eq_true rfl) rfl dX3_doublePoint_196 rfl (fun z17 T17 y17 => ?_)
  obtain ⟨rfl, u17, C17⟩ := y17
  rw [r16, r16_1] at C17
  obtain ⟨Q17, s17⟩ : ∃ Q, Q = va_up Q16 (o + 1) (sM (mM (sM (aM (mM (R p) (aM (mM (R (p + 1)) (R (p + 1))) (mM (R (p + 1)) (R (p + 1))))) (mM (R p) (aM (mM (R (p + 1)) (R (p + 1))) (mM (R (p + 1)) (R (p + 1)))))) (sM (sM (mM (aM (mM (R p) (R p)) (aM (mM (R p) (R p)) (mM (R p) (R p)))) (aM (mM (R p) (R p)) (aM (mM (R p) (R p)) (mM (R p) (R p))))) (aM (mM (R p) (aM (mM (R (p + 1)) (R (p + 1))) (mM (R (p + 1)) (R (p + 1))))) (mM (R p) (aM (mM (R (p + 1)) (R (p + 1))) (mM (R (p + 1)) (R (p + 1))))))) (aM (mM (R p) (aM (mM (R (p + 1)) (R (p + 1))) (mM (R (p + 1)) (R (p + 1))))) (mM (R p) (aM (mM (R (p + 1)) (R (p + 1))) (mM (R (p + 1)) (R (p + 1)))))))) (aM (mM (R p) (R p)) (aM (mM (R p) (R p)) (mM (R p) (R p))))) (aM (mM (aM (mM (R (p + 1)) (R (p + 1))) (mM (R (p + 1)) (R (p + 1)))) (aM (mM (R (p + 1)) (R (p + 1))) (mM (R (p + 1)) (R (p + 1))))) (mM (aM (mM (R (p + 1)) (R (p + 1))) (mM (R (p + 1)) (R (p + 1)))) (aM (mM (R (p + 1)) (R (p + 1))) (mM (R (p + 1)) (R (p + 1))))))) := ⟨_, rfl⟩
  rw [← s17] at C17
  have r17 : Q17 (o + 1) = sM (mM (sM (aM (mM (R p) (aM (mM (R (p + 1)) (R (p + 1))) (mM (R (p + 1)) (R (p + 1))))) (mM (R p) (aM (mM (R (p + 1)) (R (p + 1))) (mM (R (p + 1)) (R (p + 1)))))) (sM (sM (mM (aM (mM (R p) (R p)) (aM (mM (R p) (R p)) (mM (R p) (R p)))) (aM (mM (R p) (R p)) (aM (mM (R p) (R p)) (mM (R p) (R p))))) (aM (mM (R p) (aM (mM (R (p + 1)) (R (p + 1))) (mM (R (p + 1)) (R (p + 1))))) (mM (R p) (aM (mM (R (p + 1)) (R (p + 1))) (mM (R (p + 1)) (R (p + 1))))))) (aM (mM (R p) (aM (mM (R (p + 1)) (R (p + 1))) (mM (R (p + 1)) (R (p + 1))))) (mM (R p) (aM (mM (R (p + 1)) (R (p + 1))) (mM (R (p + 1)) (R (p + 1)))))))) (aM (mM (R p) (R p)) (aM (mM (R p) (R p)) (mM (R p) (R p))))) (aM (mM (aM (mM (R (p + 1)) (R (p + 1))) (mM (R (p + 1)) (R (p + 1)))) (aM (mM (R (p + 1)) (R (p + 1))) (mM (R (p + 1)) (R (p + 1))))) (mM (aM (mM (R (p + 1)) (R (p + 1))) (mM (R (p + 1)) (R (p + 1)))) (aM (mM (R (p + 1)) (R (p + 1))) (mM (R (p + 1)) (R (p + 1)))))) := by rw [s17]; exact va_up_self _ _ _
  have r17_o : Q17 o = sM (sM (mM (aM (mM (R p) (R p)) (aM (mM (R p) (R p)) (mM (R p) (R p)))) (aM (mM (R p) (R p)) (aM (mM (R p) (R p)) (mM (R p) (R p))))) (aM (mM (R p) (aM (mM (R (p + 1)) (R (p + 1))) (mM (R (p + 1)) (R (p + 1))))) (mM (R p) (aM (mM (R (p + 1)) (R (p + 1))) (mM (R (p + 1)) (R (p + 1))))))) (aM (mM (R p) (aM (mM (R (p + 1)) (R (p + 1))) (mM (R (p + 1)) (R (p + 1))))) (mM (R p) (aM (mM (R (p + 1)) (R (p + 1))) (mM (R (p + 1)) (R (p + 1)))))) := by rw [s17]; exact (va_up_ne _ _ n01).trans r16_o
  have r17_o2 : Q17 (o + 2) = aM (mM (R (p + 1)) (R (p + 2))) (mM (R (p + 1)) (R (p + 2))) := by rw [s17]; exact (va_up_ne _ _ (Ne.symm n12)).trans r16_o2
  have O17 : ∀ j, 6 ≤ j → j ≠ o → j ≠ o + 1 → j ≠ o + 2 → Q17 j = R j := fun j h1 h2 h3 h4 => by rw [s17]; exact (va_up_ne _ _ h3).trans (O16 j h1 h2 h3 h4)
  refine ks_ret rfl dX3_doublePoint_199 ?_
  exact ⟨rfl, ((((((((((((((((u1.trans u2).trans u3).trans u4).trans u5).trans u6).trans u7).trans u8).trans u9).trans u10).trans u11).trans u12).trans u13).trans u14).trans u15).trans u16).trans u17), Q17, C17, r17_o, r17, r17_o2, O17⟩
/-- what addPoints answers -/
def adP (R R2 : Nat → Nat) (o p q : Nat) : Prop := R2 o = adX (adU (R p) (R (q + 2))) (adH (R p) (R (p + 2)) (R q) (R (q + 2))) (adR (R (p + 1)) (R (p + 2)) (R (q + 1)) (R (q + 2))) ∧ R2 (o + 1) = adY (adU (R p) (R (q + 2))) (adV (R (p + 1)) (R (q + 2))) (adH (R p) (R (p + 2)) (R q) (R (q + 2))) (adR (R (p + 1)) (R (p + 2)) (R (q + 1)) (R (q + 2))) ∧ R2 (o + 2) = adZ (R (p + 2)) (R (q + 2)) (adH (R p) (R (p + 2)) (R q) (R (q + 2)))
set_option maxRecDepth 100000 in
set_option maxHeartbeats 2000000 in
theorem c_cv_addPoints {l : Launch} {G : ks_G} {d : Nat} {S : ks_S} {R : Nat → Nat} {ir : Bool} {o p q : Nat} (hC : cvX S ir R) (ho6 : 6 ≤ o) (ho : o + 3 ≤ 100) (hp6 : 6 ≤ p) (hp : p + 3 ≤ 100) (hq6 : 6 ≤ q) (hq : q + 3 ≤ 100) (hxp : R p < pP) (hyp : R (p + 1) < pP) (hzp : R (p + 2) < pP) (hxq : R q < pP) (hyq : R (q + 1) < pP) (hzq : R (q + 2) < pP) : ks_P l G yX3_addPoints mX3_addPoints (d + 2) [.ref 14, .int (nI (9 * o)), .int (nI (9 * p)), .int (nI (9 * q))] S (fun z S' => ks_up S S' [16] ∧ ∃ R2, cvX S' ir R2 ∧ (∀ j, 6 ≤ j → j ≠ o → j ≠ o + 1 → j ≠ o + 2 → R2 j = R j) ∧ (if R (p + 2) = 0 then z = some (.int (ks_bo true)) ∧ R2 o = R q ∧ R2 (o + 1) = R (q + 1) ∧ R2 (o + 2) = R (q + 2) else if adH (R p) (R (p + 2)) (R q) (R (q + 2)) = 0 ∧ adR (R (p + 1)) (R (p + 2)) (R (q + 1)) (R (q + 2)) = 0 then z = some (.int (ks_bo false)) ∧ R2 o = R o ∧ R2 (o + 1) = R (o + 1) ∧ R2 (o + 2) = R (o + 2) else z = some (.int (ks_bo true)) ∧ adP R R2 o p q)) := by
  have n01 : o ≠ o + 1 := by omega
  have n02 : o ≠ o + 2 := by omega
  have n12 : o + 1 ≠ o + 2 := by omega
  have o0 : 6 ≤ o := ho6
  have o1 : 6 ≤ o + 1 := by omega
  have o2 : 6 ≤ o + 2 := by omega
  have oa : o < 100 := by omega
  have ob : o + 1 < 100 := by omega
  have oc : o + 2 < 100 := by omega
  have p0 : 6 ≤ p := hp6
  have p1 : 6 ≤ p + 1 := by omega
  have p2 : 6 ≤ p + 2 := by omega
  have pa : p < 105 := by omega
  have pb : p + 1 < 105 := by omega
  have pc : p + 2 < 105 := by omega
  have q0 : 6 ≤ q := hq6
  have q1 : 6 ≤ q + 1 := by omega
  have q2 : 6 ≤ q + 2 := by omega
  have qa : q < 105 := by omega
  have qb : q + 1 < 105 := by omega
  have qc : q + 2 < 105 := by omega
  have O0 : ∀ j, 6 ≤ j → j ≠ o → j ≠ o + 1 → j ≠ o + 2 → R j = R j := fun _ _ _ _ _ => rfl
  have A0 : ∀ j, 6 ≤ j → R j = R j := fun _ _ => rfl
  have P0 : R p = R p := rfl
  have P1 : R (p + 1) = R (p + 1) := rfl
  have P2 : R (p + 2) = R (p + 2) := rfl
  have J0 : R q = R q := rfl
  have J1 : R (q + 1) = R (q + 1) := rfl
  have J2 : R (q + 2) = R (q + 2) := rfl
  refine ks_of (by decide) rfl rfl (Nat.le_of_ble_eq_true rfl) ?_
  show ks_X l G mX3_addPoints (d + 2) 0 [(0, .ref 14), (1, .int (nI (9 * o))), (2, .int (nI (9 * p))), (3, .int (nI (9 * q)))] [] S _
  refine ks_aload_n dX3_addPoints_0 rfl rfl ?_
  refine ks_getf (T := TX3) (kf := 0) kx_535 rfl in_X3 cl_X3 (by decide) hC.1 rfl dX3_addPoints_1 rfl ?_
  refine ks_iload_n dX3_addPoints_4 rfl rfl ?_
  refine ks_bipush (x := nI 18) dX3_addPoints_5 (by decide) rfl ?_
  refine ks_addN dX3_addPoints_7 rfl ?_
  refine ks_callV (n := 1) (M' := mX5_isZero) (c_fd_isZero (d := d + 1) (x := p + 2) hC.2.1 pc) hC.2.1.1 cl_X5 rfl kx_526 kx_527 kx_528 kx_5 kx_529 (by decide +kernel) rfl (by decide) (Nat.le_of_ble_eq_true rfl) rfl dX3_addPoints_8 rfl (fun z9 T9 y9 => ?_)
  obtain ⟨rfl, hS9⟩ := y9
  obtain rfl := hS9.symm
  rw [P2]
  refine ks_if_eqZ (tgt := 26) dX3_addPoints_11 (by decide) rfl (fun g1 => ?_) (fun g1 => ?_)
  · have hz0 := of_decide_eq_false g1
    have OO0 : R o = R o := rfl
    have OO1 : R (o + 1) = R (o + 1) := rfl
    have OO2 : R (o + 2) = R (o + 2) := rfl
    refine ks_aload_n dX3_addPoints_26 rfl rfl ?_
    refine ks_iconst (x := nI 0) dX3_addPoints_27 (by decide) rfl ?_
    refine ks_iload_n dX3_addPoints_28 rfl rfl ?_
    refine ks_bipush (x := nI 18) dX3_addPoints_29 (by decide) rfl ?_
    refine ks_addN dX3_addPoints_31 rfl ?_
    refine ks_iload_n dX3_addPoints_32 rfl rfl ?_
    refine ks_bipush (x := nI 18) dX3_addPoints_33 (by decide) rfl ?_
    refine ks_addN dX3_addPoints_35 rfl ?_
    refine ks_callV (n := 3) (M' := mX3_multiply) (c_cvm (d := d + 1) (o := 0) (x := p + 2) (y := p + 2) hC (by decide) pc pc (Nat.lt_trans (lt_of_eq9 P2 hzp) pP_lt) (Nat.lt_trans (lt_of_eq9 P2 hzp) pP_lt)) hC.1 cl_X3 rfl kx_502 kx_504 kxp_2 kx_4 kx_505 (by decide +kernel) rfl (by decide) (Nat.le_of_ble_eq_true rfl) rfl dX3_addPoints_36 rfl (fun z1 T1 y1 => ?_)
    obtain ⟨rfl, u1, C1⟩ := y1
    rw [P2] at C1
    obtain ⟨Q1, s1⟩ : ∃ Q, Q = va_up R 0 (mM (R (p + 2)) (R (p + 2))) := ⟨_, rfl⟩
    rw [← s1] at C1
    have r1 : Q1 0 = mM (R (p + 2)) (R (p + 2)) := by rw [s1]; exact va_up_self _ _ _
    have r1_o : Q1 o = R o := by rw [s1]; exact (va_up_ne _ _ (ne6 o0 (by decide))).trans OO0
    have r1_o1 : Q1 (o + 1) = R (o + 1) := by rw [s1]; exact (va_up_ne _ _ (ne6 o1 (by decide))).trans OO1
    have r1_o2 : Q1 (o + 2) = R (o + 2) := by rw [s1]; exact (va_up_ne _ _ (ne6 o2 (by decide))).trans OO2
    have r1_p : Q1 p = R p := by rw [s1]; exact (va_up_ne _ _ (ne6 p0 (by decide))).trans P0
    have r1_p1 : Q1 (p + 1) = R (p + 1) := by rw [s1]; exact (va_up_ne _ _ (ne6 p1 (by decide))).trans P1
    have r1_p2 : Q1 (p + 2) = R (p + 2) := by rw [s1]; exact (va_up_ne _ _ (ne6 p2 (by decide))).trans P2
    have r1_q : Q1 q = R q := by rw [s1]; exact (va_up_ne _ _ (ne6 q0 (by decide))).trans J0
    have r1_q1 : Q1 (q + 1) = R (q + 1) := by rw [s1]; exact (va_up_ne _ _ (ne6 q1 (by decide))).trans J1
    have r1_q2 : Q1 (q + 2) = R (q + 2) := by rw [s1]; exact (va_up_ne _ _ (ne6 q2 (by decide))).trans J2
    have O1 : ∀ j, 6 ≤ j → j ≠ o → j ≠ o + 1 → j ≠ o + 2 → Q1 j = R j := fun j h1 h2 h3 h4 => by rw [s1]; exact (va_up_ne _ _ (ne6 h1 (by decide))).trans (O0 j h1 h2 h3 h4)
    refine ks_aload_n dX3_addPoints_39 rfl rfl ?_
    refine ks_bipush (x := nI 9) dX3_addPoints_40 (by decide) rfl ?_
    refine ks_iload_n dX3_addPoints_42 rfl rfl ?_
    refine ks_bipush (x := nI 18) dX3_addPoints_43 (by decide) rfl ?_
    refine ks_addN dX3_addPoints_45 rfl ?_
    refine ks_iload_n dX3_addPoints_46 rfl rfl ?_
    refine ks_bipush (x := nI 18) dX3_addPoints_47 (by decide) rfl ?_
    refine ks_addN dX3_addPoints_49 rfl ?_
    refine ks_callV (n := 3) (M' := mX3_multiply) (c_cvm (d := d + 1) (o := 1) (x := q + 2) (y := q + 2) C1 (by decide) qc qc (Nat.lt_trans (lt_of_eq9 r1_q2 hzq) pP_lt) (Nat.lt_trans (lt_of_eq9 r1_q2 hzq) pP_lt)) C1.1 cl_X3 rfl kx_502 kx_504 kxp_2 kx_4 kx_505 (by decide +kernel) rfl (by decide) (Nat.le_of_ble_eq_true rfl) rfl dX3_addPoints_50 rfl (fun z2 T2 y2 => ?_)
    obtain ⟨rfl, u2, C2⟩ := y2
    rw [r1_q2] at C2
    obtain ⟨Q2, s2⟩ : ∃ Q, Q = va_up Q1 1 (mM (R (q + 2)) (R (q + 2))) := ⟨_, rfl⟩
    rw [← s2] at C2
    have r2 : Q2 1 = mM (R (q + 2)) (R (q + 2)) := by rw [s2]; exact va_up_self _ _ _
    have r2_0 : Q2 0 = mM (R (p + 2)) (R (p + 2)) := by rw [s2]; exact (va_up_ne _ _ (by decide)).trans r1
    have r2_o : Q2 o = R o := by rw [s2]; exact (va_up_ne _ _ (ne6 o0 (by decide))).trans r1_o
    have r2_o1 : Q2 (o + 1) = R (o + 1) := by rw [s2]; exact (va_up_ne _ _ (ne6 o1 (by decide))).trans r1_o1
    have r2_o2 : Q2 (o + 2) = R (o + 2) := by rw [s2]; exact (va_up_ne _ _ (ne6 o2 (by decide))).trans r1_o2
    have r2_p : Q2 p = R p := by rw [s2]; exact (va_up_ne _ _ (ne6 p0 (by decide))).trans r1_p
    have r2_p1 : Q2 (p + 1) = R (p + 1) := by rw [s2]; exact (va_up_ne _ _ (ne6 p1 (by decide))).trans r1_p1
    have r2_p2 : Q2 (p + 2) = R (p + 2) := by rw [s2]; exact (va_up_ne _ _ (ne6 p2 (by decide))).trans r1_p2
    have r2_q : Q2 q = R q := by rw [s2]; exact (va_up_ne _ _ (ne6 q0 (by decide))).trans r1_q
    have r2_q1 : Q2 (q + 1) = R (q + 1) := by rw [s2]; exact (va_up_ne _ _ (ne6 q1 (by decide))).trans r1_q1
    have r2_q2 : Q2 (q + 2) = R (q + 2) := by rw [s2]; exact (va_up_ne _ _ (ne6 q2 (by decide))).trans r1_q2
    have O2 : ∀ j, 6 ≤ j → j ≠ o → j ≠ o + 1 → j ≠ o + 2 → Q2 j = R j := fun j h1 h2 h3 h4 => by rw [s2]; exact (va_up_ne _ _ (ne6 h1 (by decide))).trans (O1 j h1 h2 h3 h4)
    refine ks_aload_n dX3_addPoints_53 rfl rfl ?_
    refine ks_bipush (x := nI 18) dX3_addPoints_54 (by decide) rfl ?_
    refine ks_iload_n dX3_addPoints_56 rfl rfl ?_
    refine ks_bipush (x := nI 9) dX3_addPoints_57 (by decide) rfl ?_
    refine ks_callV (n := 3) (M' := mX3_multiply) (c_cvm (d := d + 1) (o := 2) (x := p) (y := 1) C2 (by decide) pa (by decide) (Nat.lt_trans (lt_of_eq9 r2_p hxp) pP_lt) (Nat.lt_trans (lt_of_eq9 r2 (mM_lt _ _)) pP_lt)) C2.1 cl_X3 rfl kx_502 kx_504 kxp_2 kx_4 kx_505 (by decide +kernel) rfl (by decide) (Nat.le_of_ble_eq_true rfl) rfl dX3_addPoints_59 rfl (fun z3 T3 y3 => ?_)
    obtain ⟨rfl, u3, C3⟩ := y3
    rw [r2_p, r2] at C3
    obtain ⟨Q3, s3⟩ : ∃ Q, Q = va_up Q2 2 (mM (R p) (mM (R (q + 2)) (R (q + 2)))) := ⟨_, rfl⟩
    rw [← s3] at C3
    have r3 : Q3 2 = mM (R p) (mM (R (q + 2)) (R (q + 2))) := by rw [s3]; exact va_up_self _ _ _
    have r3_0 : Q3 0 = mM (R (p + 2)) (R (p + 2)) := by rw [s3]; exact (va_up_ne _ _ (by decide)).trans r2_0
    have r3_1 : Q3 1 = mM (R (q + 2)) (R (q + 2)) := by rw [s3]; exact (va_up_ne _ _ (by decide)).trans r2
    have r3_o : Q3 o = R o := by rw [s3]; exact (va_up_ne _ _ (ne6 o0 (by decide))).trans r2_o
    have r3_o1 : Q3 (o + 1) = R (o + 1) := by rw [s3]; exact (va_up_ne _ _ (ne6 o1 (by decide))).trans r2_o1
    have r3_o2 : Q3 (o + 2) = R (o + 2) := by rw [s3]; exact (va_up_ne _ _ (ne6 o2 (by decide))).trans r2_o2
    have r3_p1 : Q3 (p + 1) = R (p + 1) := by rw [s3]; exact (va_up_ne _ _ (ne6 p1 (by decide))).trans r2_p1
    have r3_p2 : Q3 (p + 2) = R (p + 2) := by rw [s3]; exact (va_up_ne _ _ (ne6 p2 (by decide))).trans r2_p2
    have r3_q : Q3 q = R q := by rw [s3]; exact (va_up_ne _ _ (ne6 q0 (by decide))).trans r2_q
    have r3_q1 : Q3 (q + 1) = R (q + 1) := by rw [s3]; exact (va_up_ne _ _ (ne6 q1 (by decide))).trans r2_q1
    have r3_q2 : Q3 (q + 2) = R (q + 2) := by rw [s3]; exact (va_up_ne _ _ (ne6 q2 (by decide))).trans r2_q2
    have O3 : ∀ j, 6 ≤ j → j ≠ o → j ≠ o + 1 → j ≠ o + 2 → Q3 j = R j := fun j h1 h2 h3 h4 => by rw [s3]; exact (va_up_ne _ _ (ne6 h1 (by decide))).trans (O2 j h1 h2 h3 h4)
    refine ks_aload_n dX3_addPoints_62 rfl rfl ?_
    refine ks_bipush (x := nI 27) dX3_addPoints_63 (by decide) rfl ?_
    refine ks_iload_n dX3_addPoints_65 rfl rfl ?_
    refine ks_iconst (x := nI 0) dX3_addPoints_66 (by decide) rfl ?_
    refine ks_callV (n := 3) (M' := mX3_multiply) (c_cvm (d := d + 1) (o := 3) (x := q) (y := 0) C3 (by decide) qa (by decide) (Nat.lt_trans (lt_of_eq9 r3_q hxq) pP_lt) (Nat.lt_trans (lt_of_eq9 r3_0 (mM_lt _ _)) pP_lt)) C3.1 cl_X3 rfl kx_502 kx_504 kxp_2 kx_4 kx_505 (by decide +kernel) rfl (by decide) (Nat.le_of_ble_eq_true rfl) rfl dX3_addPoints_67 rfl (fun z4 T4 y4 => ?_)
    obtain ⟨rfl, u4, C4⟩ := y4
    rw [r3_q, r3_0] at C4
    obtain ⟨Q4, s4⟩ : ∃ Q, Q = va_up Q3 3 (mM (R q) (mM (R (p + 2)) (R (p + 2)))) := ⟨_, rfl⟩
    rw [← s4] at C4
    have r4 : Q4 3 = mM (R q) (mM (R (p + 2)) (R (p + 2))) := by rw [s4]; exact va_up_self _ _ _
    have r4_0 : Q4 0 = mM (R (p + 2)) (R (p + 2)) := by rw [s4]; exact (va_up_ne _ _ (by decide)).trans r3_0
    have r4_1 : Q4 1 = mM (R (q + 2)) (R (q + 2)) := by rw [s4]; exact (va_up_ne _ _ (by decide)).trans r3_1
    have r4_2 : Q4 2 = mM (R p) (mM (R (q + 2)) (R (q + 2))) := by rw [s4]; exact (va_up_ne _ _ (by decide)).trans r3
    have r4_o : Q4 o = R o := by rw [s4]; exact (va_up_ne _ _ (ne6 o0 (by decide))).trans r3_o
    have r4_o1 : Q4 (o + 1) = R (o + 1) := by rw [s4]; exact (va_up_ne _ _ (ne6 o1 (by decide))).trans r3_o1
    have r4_o2 : Q4 (o + 2) = R (o + 2) := by rw [s4]; exact (va_up_ne _ _ (ne6 o2 (by decide))).trans r3_o2
    have r4_p1 : Q4 (p + 1) = R (p + 1) := by rw [s4]; exact (va_up_ne _ _ (ne6 p1 (by decide))).trans r3_p1
    have r4_p2 : Q4 (p + 2) = R (p + 2) := by rw [s4]; exact (va_up_ne _ _ (ne6 p2 (by decide))).trans r3_p2
    have r4_q1 : Q4 (q + 1) = R (q + 1) := by rw [s4]; exact (va_up_ne _ _ (ne6 q1 (by decide))).trans r3_q1
    have r4_q2 : Q4 (q + 2) = R (q + 2) := by rw [s4]; exact (va_up_ne _ _ (ne6 q2 (by decide))).trans r3_q2
    have O4 : ∀ j, 6 ≤ j → j ≠ o → j ≠ o + 1 → j ≠ o + 2 → Q4 j = R j := fun j h1 h2 h3 h4 => by rw [s4]; exact (va_up_ne _ _ (ne6 h1 (by decide))).trans (O3 j h1 h2 h3 h4)
    refine ks_aload_n dX3_addPoints_70 rfl rfl ?_
    refine ks_bipush (x := nI 36) dX3_addPoints_71 (by decide) rfl ?_
    refine ks_iload_n dX3_addPoints_73 rfl rfl ?_
    refine ks_bipush (x := nI 9) dX3_addPoints_74 (by decide) rfl ?_
    refine ks_addN dX3_addPoints_76 rfl ?_
    refine ks_iload_n dX3_addPoints_77 rfl rfl ?_
    refine ks_bipush (x := nI 18) dX3_addPoints_78 (by decide) rfl ?_
    refine ks_addN dX3_addPoints_80 rfl ?_
    refine ks_callV (n := 3) (M' := mX3_multiply) (c_cvm (d := d + 1) (o := 4) (x := p + 1) (y := q + 2) C4 (by decide) pb qc (Nat.lt_trans (lt_of_eq9 r4_p1 hyp) pP_lt) (Nat.lt_trans (lt_of_eq9 r4_q2 hzq) pP_lt)) C4.1 cl_X3 rfl kx_502 kx_504 kxp_2 kx_4 kx_505 (by decide +kernel) rfl (by decide) (Nat.le_of_ble_eq_true rfl) rfl dX3_addPoints_81 rfl (fun z5 T5 y5 => ?_)
    obtain ⟨rfl, u5, C5⟩ := y5
    rw [r4_p1, r4_q2] at C5
    obtain ⟨Q5, s5⟩ : ∃ Q, Q = va_up Q4 4 (mM (R (p + 1)) (R (q + 2))) := ⟨_, rfl⟩
    rw [← s5] at C5
    have r5 : Q5 4 = mM (R (p + 1)) (R (q + 2)) := by rw [s5]; exact va_up_self _ _ _
    have r5_0 : Q5 0 = mM (R (p + 2)) (R (p + 2)) := by rw [s5]; exact (va_up_ne _ _ (by decide)).trans r4_0
    have r5_1 : Q5 1 = mM (R (q + 2)) (R (q + 2)) := by rw [s5]; exact (va_up_ne _ _ (by decide)).trans r4_1
    have r5_2 : Q5 2 = mM (R p) (mM (R (q + 2)) (R (q + 2))) := by rw [s5]; exact (va_up_ne _ _ (by decide)).trans r4_2
    have r5_3 : Q5 3 = mM (R q) (mM (R (p + 2)) (R (p + 2))) := by rw [s5]; exact (va_up_ne _ _ (by decide)).trans r4
    have r5_o : Q5 o = R o := by rw [s5]; exact (va_up_ne _ _ (ne6 o0 (by decide))).trans r4_o
    have r5_o1 : Q5 (o + 1) = R (o + 1) := by rw [s5]; exact (va_up_ne _ _ (ne6 o1 (by decide))).trans r4_o1
    have r5_o2 : Q5 (o + 2) = R (o + 2) := by rw [s5]; exact (va_up_ne _ _ (ne6 o2 (by decide))).trans r4_o2
    have r5_p2 : Q5 (p + 2) = R (p + 2) := by rw [s5]; exact (va_up_ne _ _ (ne6 p2 (by decide))).trans r4_p2
    have r5_q1 : Q5 (q + 1) = R (q + 1) := by rw [s5]; exact (va_up_ne _ _ (ne6 q1 (by decide))).trans r4_q1
    have r5_q2 : Q5 (q + 2) = R (q + 2) := by rw [s5]; exact (va_up_ne _ _ (ne6 q2 (by decide))).trans r4_q2
    have O5 : ∀ j, 6 ≤ j → j ≠ o → j ≠ o + 1 → j ≠ o + 2 → Q5 j = R j := fun j h1 h2 h3 h4 => by rw [s5]; exact (va_up_ne _ _ (ne6 h1 (by decide))).trans (O4 j h1 h2 h3 h4)
    refine ks_aload_n dX3_addPoints_84 rfl rfl ?_
    refine ks_bipush (x := nI 36) dX3_addPoints_85 (by decide) rfl ?_
    refine ks_bipush (x := nI 36) dX3_addPoints_87 (by decide) rfl ?_
    refine ks_bipush (x := nI 9) dX3_addPoints_89 (by decide) rfl ?_
    refine ks_callV (n := 3) (M' := mX3_multiply) (c_cvm (d := d + 1) (o := 4) (x := 4) (y := 1) C5 (by decide) (by decide) (by decide) (Nat.lt_trans (lt_of_eq9 r5 (mM_lt _ _)) pP_lt) (Nat.lt_trans (lt_of_eq9 r5_1 (mM_lt _ _)) pP_lt)) C5.1 cl_X3 rfl kx_502 kx_504 kxp_2 kx_4 kx_505 (by decide +kernel) rfl (by decide) (Nat.le_of_ble_eq_true rfl) rfl dX3_addPoints_91 rfl (fun z6 T6 y6 => ?_)
    obtain ⟨rfl, u6, C6⟩ := y6
    rw [r5, r5_1] at C6
    obtain ⟨Q6, s6⟩ : ∃ Q, Q = va_up Q5 4 (mM (mM (R (p + 1)) (R (q + 2))) (mM (R (q + 2)) (R (q + 2)))) := ⟨_, rfl⟩
    rw [← s6] at C6
    have r6 : Q6 4 = mM (mM (R (p + 1)) (R (q + 2))) (mM (R (q + 2)) (R (q + 2))) := by rw [s6]; exact va_up_self _ _ _
    have r6_0 : Q6 0 = mM (R (p + 2)) (R (p + 2)) := by rw [s6]; exact (va_up_ne _ _ (by decide)).trans r5_0
    have r6_2 : Q6 2 = mM (R p) (mM (R (q + 2)) (R (q + 2))) := by rw [s6]; exact (va_up_ne _ _ (by decide)).trans r5_2
    have r6_3 : Q6 3 = mM (R q) (mM (R (p + 2)) (R (p + 2))) := by rw [s6]; exact (va_up_ne _ _ (by decide)).trans r5_3
    have r6_o : Q6 o = R o := by rw [s6]; exact (va_up_ne _ _ (ne6 o0 (by decide))).trans r5_o
    have r6_o1 : Q6 (o + 1) = R (o + 1) := by rw [s6]; exact (va_up_ne _ _ (ne6 o1 (by decide))).trans r5_o1
    have r6_o2 : Q6 (o + 2) = R (o + 2) := by rw [s6]; exact (va_up_ne _ _ (ne6 o2 (by decide))).trans r5_o2
    have r6_p2 : Q6 (p + 2) = R (p + 2) := by rw [s6]; exact (va_up_ne _ _ (ne6 p2 (by decide))).trans r5_p2
    have r6_q1 : Q6 (q + 1) = R (q + 1) := by rw [s6]; exact (va_up_ne _ _ (ne6 q1 (by decide))).trans r5_q1
    have r6_q2 : Q6 (q + 2) = R (q + 2) := by rw [s6]; exact (va_up_ne _ _ (ne6 q2 (by decide))).trans r5_q2
    have O6 : ∀ j, 6 ≤ j → j ≠ o → j ≠ o + 1 → j ≠ o + 2 → Q6 j = R j := fun j h1 h2 h3 h4 => by rw [s6]; exact (va_up_ne _ _ (ne6 h1 (by decide))).trans (O5 j h1 h2 h3 h4)
    refine ks_aload_n dX3_addPoints_94 rfl rfl ?_
    refine ks_bipush (x := nI 45) dX3_addPoints_95 (by decide) rfl ?_
    refine ks_iload_n dX3_addPoints_97 rfl rfl ?_
    refine ks_bipush (x := nI 9) dX3_addPoints_98 (by decide) rfl ?_
    refine ks_addN dX3_addPoints_100 rfl ?_
    refine ks_iload_n dX3_addPoints_101 rfl rfl ?_
    refine ks_bipush (x := nI 18) dX3_addPoints_102 (by decide) rfl ?_
    refine ks_addN dX3_addPoints_104 rfl ?_
    refine ks_callV (n := 3) (M' := mX3_multiply) (c_cvm (d := d + 1) (o := 5) (x := q + 1) (y := p + 2) C6 (by decide) qb pc (Nat.lt_trans (lt_of_eq9 r6_q1 hyq) pP_lt) (Nat.lt_trans (lt_of_eq9 r6_p2 hzp) pP_lt)) C6.1 cl_X3 rfl kx_502 kx_504 kxp_2 kx_4 kx_505 (by decide +kernel) rfl (by decide) (Nat.le_of_ble_eq_true rfl) rfl dX3_addPoints_105 rfl (fun z7 T7 y7 => ?_)
    obtain ⟨rfl, u7, C7⟩ := y7
    rw [r6_q1, r6_p2] at C7
    obtain ⟨Q7, s7⟩ : ∃ Q, Q = va_up Q6 5 (mM (R (q + 1)) (R (p + 2))) := ⟨_, rfl⟩
    rw [← s7] at C7
    have r7 : Q7 5 = mM (R (q + 1)) (R (p + 2)) := by rw [s7]; exact va_up_self _ _ _
    have r7_0 : Q7 0 = mM (R (p + 2)) (R (p + 2)) := by rw [s7]; exact (va_up_ne _ _ (by decide)).trans r6_0
    have r7_2 : Q7 2 = mM (R p) (mM (R (q + 2)) (R (q + 2))) := by rw [s7]; exact (va_up_ne _ _ (by decide)).trans r6_2
    have r7_3 : Q7 3 = mM (R q) (mM (R (p + 2)) (R (p + 2))) := by rw [s7]; exact (va_up_ne _ _ (by decide)).trans r6_3
    have r7_4 : Q7 4 = mM (mM (R (p + 1)) (R (q + 2))) (mM (R (q + 2)) (R (q + 2))) := by rw [s7]; exact (va_up_ne _ _ (by decide)).trans r6
    have r7_o : Q7 o = R o := by rw [s7]; exact (va_up_ne _ _ (ne6 o0 (by decide))).trans r6_o
    have r7_o1 : Q7 (o + 1) = R (o + 1) := by rw [s7]; exact (va_up_ne _ _ (ne6 o1 (by decide))).trans r6_o1
    have r7_o2 : Q7 (o + 2) = R (o + 2) := by rw [s7]; exact (va_up_ne _ _ (ne6 o2 (by decide))).trans r6_o2
    have r7_p2 : Q7 (p + 2) = R (p + 2) := by rw [s7]; exact (va_up_ne _ _ (ne6 p2 (by decide))).trans r6_p2
    have r7_q2 : Q7 (q + 2) = R (q + 2) := by rw [s7]; exact (va_up_ne _ _ (ne6 q2 (by decide))).trans r6_q2
    have O7 : ∀ j, 6 ≤ j → j ≠ o → j ≠ o + 1 → j ≠ o + 2 → Q7 j = R j := fun j h1 h2 h3 h4 => by rw [s7]; exact (va_up_ne _ _ (ne6 h1 (by decide))).trans (O6 j h1 h2 h3 h4)
    refine ks_aload_n dX3_addPoints_108 rfl rfl ?_
    refine ks_bipush (x := nI 45) dX3_addPoints_109 (by decide) rfl ?_
    refine ks_bipush (x := nI 45) dX3_addPoints_111 (by decide) rfl ?_
    refine ks_iconst (x := nI 0) dX3_addPoints_113 (by decide) rfl ?_
    refine ks_callV (n := 3) (M' := mX3_multiply) (c_cvm (d := d + 1) (o := 5) (x := 5) (y := 0) C7 (by decide) (by decide) (by decide) (Nat.lt_trans (lt_of_eq9 r7 (mM_lt _ _)) pP_lt) (Nat.lt_trans (lt_of_eq9 r7_0 (mM_lt _ _)) pP_lt)) C7.1 cl_X3 rfl kx_502 kx_504 kxp_2 kx_4 kx_505 (by decide +kernel) rfl (by decide) (Nat.le_of_ble_eq_true rfl) rfl dX3_addPoints_114 rfl (fun z8 T8 y8 => ?_)
    obtain ⟨rfl, u8, C8⟩ := y8
    rw [r7, r7_0] at C8
    obtain ⟨Q8, s8⟩ : ∃ Q, Q = va_up Q7 5 (mM (mM (R (q + 1)) (R (p + 2))) (mM (R (p + 2)) (R (p + 2)))) := ⟨_, rfl⟩
    rw [← s8] at C8
    have r8 : Q8 5 = mM (mM (R (q + 1)) (R (p + 2))) (mM (R (p + 2)) (R (p + 2))) := by rw [s8]; exact va_up_self _ _ _
    have r8_2 : Q8 2 = mM (R p) (mM (R (q + 2)) (R (q + 2))) := by rw [s8]; exact (va_up_ne _ _ (by decide)).trans r7_2
    have r8_3 : Q8 3 = mM (R q) (mM (R (p + 2)) (R (p + 2))) := by rw [s8]; exact (va_up_ne _ _ (by decide)).trans r7_3
    have r8_4 : Q8 4 = mM (mM (R (p + 1)) (R (q + 2))) (mM (R (q + 2)) (R (q + 2))) := by rw [s8]; exact (va_up_ne _ _ (by decide)).trans r7_4
    have r8_o : Q8 o = R o := by rw [s8]; exact (va_up_ne _ _ (ne6 o0 (by decide))).trans r7_o
    have r8_o1 : Q8 (o + 1) = R (o + 1) := by rw [s8]; exact (va_up_ne _ _ (ne6 o1 (by decide))).trans r7_o1
    have r8_o2 : Q8 (o + 2) = R (o + 2) := by rw [s8]; exact (va_up_ne _ _ (ne6 o2 (by decide))).trans r7_o2
    have r8_p2 : Q8 (p + 2) = R (p + 2) := by rw [s8]; exact (va_up_ne _ _ (ne6 p2 (by decide))).trans r7_p2
    have r8_q2 : Q8 (q + 2) = R (q + 2) := by rw [s8]; exact (va_up_ne _ _ (ne6 q2 (by decide))).trans r7_q2
    have O8 : ∀ j, 6 ≤ j → j ≠ o → j ≠ o + 1 → j ≠ o + 2 → Q8 j = R j := fun j h1 h2 h3 h4 => by rw [s8]; exact (va_up_ne _ _ (ne6 h1 (by decide))).trans (O7 j h1 h2 h3 h4)
    refine ks_aload_n dX3_addPoints_117 rfl rfl ?_
    refine ks_getf (T := TX3) (kf := 0) kx_535 rfl in_X3 cl_X3 (by decide) C8.1 rfl dX3_addPoints_118 rfl ?_
    refine ks_bipush (x := nI 27) dX3_addPoints_121 (by decide) rfl ?_
    refine ks_bipush (x := nI 27) dX3_addPoints_123 (by decide) rfl ?_
    refine ks_bipush (x := nI 18) dX3_addPoints_125 (by decide) rfl ?_
    refine ks_callV (n := 3) (M' := mX5_subtract) (c_cvs (d := d + 1) (o := 3) (x := 3) (y := 2) C8 (by decide) (by decide) (by decide) (lt_of_eq9 r8_3 (mM_lt _ _)) (lt_of_eq9 r8_2 (mM_lt _ _))) C8.2.1.1 cl_X5 rfl kx_518 kx_519 kx_520 kx_5 kx_521 (by decide +kernel) rfl (by decide) (Nat.le_of_ble_eq_true rfl) rfl dX3_addPoints_127 rfl (fun z9 T9 y9 => ?_)
    obtain ⟨rfl, u9, C9⟩ := y9
    rw [r8_3, r8_2] at C9
    obtain ⟨Q9, s9⟩ : ∃ Q, Q = va_up Q8 3 (sM (mM (R q) (mM (R (p + 2)) (R (p + 2)))) (mM (R p) (mM (R (q + 2)) (R (q + 2))))) := ⟨_, rfl⟩
    rw [← s9] at C9
    have r9 : Q9 3 = sM (mM (R q) (mM (R (p + 2)) (R (p + 2)))) (mM (R p) (mM (R (q + 2)) (R (q + 2)))) := by rw [s9]; exact va_up_self _ _ _
    have r9_2 : Q9 2 = mM (R p) (mM (R (q + 2)) (R (q + 2))) := by rw [s9]; exact (va_up_ne _ _ (by decide)).trans r8_2
    have r9_4 : Q9 4 = mM (mM (R (p + 1)) (R (q + 2))) (mM (R (q + 2)) (R (q + 2))) := by rw [s9]; exact (va_up_ne _ _ (by decide)).trans r8_4
    have r9_5 : Q9 5 = mM (mM (R (q + 1)) (R (p + 2))) (mM (R (p + 2)) (R (p + 2))) := by rw [s9]; exact (va_up_ne _ _ (by decide)).trans r8
    have r9_o : Q9 o = R o := by rw [s9]; exact (va_up_ne _ _ (ne6 o0 (by decide))).trans r8_o
    have r9_o1 : Q9 (o + 1) = R (o + 1) := by rw [s9]; exact (va_up_ne _ _ (ne6 o1 (by decide))).trans r8_o1
    have r9_o2 : Q9 (o + 2) = R (o + 2) := by rw [s9]; exact (va_up_ne _ _ (ne6 o2 (by decide))).trans r8_o2
    have r9_p2 : Q9 (p + 2) = R (p + 2) := by rw [s9]; exact (va_up_ne _ _ (ne6 p2 (by decide))).trans r8_p2
    have r9_q2 : Q9 (q + 2) = R (q + 2) := by rw [s9]; exact (va_up_ne _ _ (ne6 q2 (by decide))).trans r8_q2
    have O9 : ∀ j, 6 ≤ j → j ≠ o → j ≠ o + 1 → j ≠ o + 2 → Q9 j = R j := fun j h1 h2 h3 h4 => by rw [s9]; exact (va_up_ne _ _ (ne6 h1 (by decide))).trans (O8 j h1 h2 h3 h4)
    refine ks_aload_n dX3_addPoints_130 rfl rfl ?_
    refine ks_getf (T := TX3) (kf := 0) kx_535 rfl in_X3 cl_X3 (by decide) C9.1 rfl dX3_addPoints_131 rfl ?_
    refine ks_bipush (x := nI 45) dX3_addPoints_134 (by decide) rfl ?_
    refine ks_bipush (x := nI 45) dX3_addPoints_136 (by decide) rfl ?_
    refine ks_bipush (x := nI 36) dX3_addPoints_138 (by decide) rfl ?_
    refine ks_callV (n := 3) (M' := mX5_subtract) (c_cvs (d := d + 1) (o := 5) (x := 5) (y := 4) C9 (by decide) (by decide) (by decide) (lt_of_eq9 r9_5 (mM_lt _ _)) (lt_of_eq9 r9_4 (mM_lt _ _))) C9.2.1.1 cl_X5 rfl kx_518 kx_519 kx_520 kx_5 kx_521 (by decide +kernel) rfl (by decide) (Nat.le_of_ble_eq_true rfl) rfl dX3_addPoints_140 rfl (fun z10 T10 y10 => ?_)
    obtain ⟨rfl, u10, C10⟩ := y10
    rw [r9_5, r9_4] at C10
    obtain ⟨Q10, s10⟩ : ∃ Q, Q = va_up Q9 5 (sM (mM (mM (R (q + 1)) (R (p + 2))) (mM (R (p + 2)) (R (p + 2)))) (mM (mM (R (p + 1)) (R (q + 2))) (mM (R (q + 2)) (R (q + 2))))) := ⟨_, rfl⟩
    rw [← s10] at C10
    have r10 : Q10 5 = sM (mM (mM (R (q + 1)) (R (p + 2))) (mM (R (p + 2)) (R (p + 2)))) (mM (mM (R (p + 1)) (R (q + 2))) (mM (R (q + 2)) (R (q + 2)))) := by rw [s10]; exact va_up_self _ _ _
    have r10_2 : Q10 2 = mM (R p) (mM (R (q + 2)) (R (q + 2))) := by rw [s10]; exact (va_up_ne _ _ (by decide)).trans r9_2
    have r10_3 : Q10 3 = sM (mM (R q) (mM (R (p + 2)) (R (p + 2)))) (mM (R p) (mM (R (q + 2)) (R (q + 2)))) := by rw [s10]; exact (va_up_ne _ _ (by decide)).trans r9
    have r10_4 : Q10 4 = mM (mM (R (p + 1)) (R (q + 2))) (mM (R (q + 2)) (R (q + 2))) := by rw [s10]; exact (va_up_ne _ _ (by decide)).trans r9_4
    have r10_o : Q10 o = R o := by rw [s10]; exact (va_up_ne _ _ (ne6 o0 (by decide))).trans r9_o
    have r10_o1 : Q10 (o + 1) = R (o + 1) := by rw [s10]; exact (va_up_ne _ _ (ne6 o1 (by decide))).trans r9_o1
    have r10_o2 : Q10 (o + 2) = R (o + 2) := by rw [s10]; exact (va_up_ne _ _ (ne6 o2 (by decide))).trans r9_o2
    have r10_p2 : Q10 (p + 2) = R (p + 2) := by rw [s10]; exact (va_up_ne _ _ (ne6 p2 (by decide))).trans r9_p2
    have r10_q2 : Q10 (q + 2) = R (q + 2) := by rw [s10]; exact (va_up_ne _ _ (ne6 q2 (by decide))).trans r9_q2
    have O10 : ∀ j, 6 ≤ j → j ≠ o → j ≠ o + 1 → j ≠ o + 2 → Q10 j = R j := fun j h1 h2 h3 h4 => by rw [s10]; exact (va_up_ne _ _ (ne6 h1 (by decide))).trans (O9 j h1 h2 h3 h4)
    refine ks_aload_n dX3_addPoints_143 rfl rfl ?_
    refine ks_getf (T := TX3) (kf := 0) kx_535 rfl in_X3 cl_X3 (by decide) C10.1 rfl dX3_addPoints_144 rfl ?_
    refine ks_bipush (x := nI 27) dX3_addPoints_147 (by decide) rfl ?_
    refine ks_callV (n := 1) (M' := mX5_isZero) (c_fd_isZero (d := d + 1) (x := 3) C10.2.1 (by decide)) C10.2.1.1 cl_X5 rfl kx_526 kx_527 kx_528 kx_5 kx_529 (by decide +kernel) rfl (by decide) (Nat.le_of_ble_eq_true rfl) rfl dX3_addPoints_149 rfl (fun z9 T9 y9 => ?_)
    obtain ⟨rfl, hS9⟩ := y9
    obtain rfl := hS9.symm
    rw [r10_3]
    refine ks_if_eqZ (tgt := 169) dX3_addPoints_152 (by decide) rfl (fun g2 => ?_) (fun g2 => ?_)
    · have h3 := of_decide_eq_false g2
      refine ks_aload_n dX3_addPoints_169 rfl rfl ?_
      refine ks_iconst (x := nI 0) dX3_addPoints_170 (by decide) rfl ?_
      refine ks_iload_n dX3_addPoints_171 rfl rfl ?_
      refine ks_bipush (x := nI 18) dX3_addPoints_172 (by decide) rfl ?_
      refine ks_addN dX3_addPoints_174 rfl ?_
      refine ks_iload_n dX3_addPoints_175 rfl rfl ?_
      refine ks_bipush (x := nI 18) dX3_addPoints_176 (by decide) rfl ?_
      refine ks_addN dX3_addPoints_178 rfl ?_
      refine ks_callV (n := 3) (M' := mX3_multiply) (c_cvm (d := d + 1) (o := 0) (x := p + 2) (y := q + 2) C10 (by decide) pc qc (Nat.lt_trans (lt_of_eq9 r10_p2 hzp) pP_lt) (Nat.lt_trans (lt_of_eq9 r10_q2 hzq) pP_lt)) C10.1 cl_X3 rfl kx_502 kx_504 kxp_2 kx_4 kx_505 (by decide +kernel) rfl (by decide) (Nat.le_of_ble_eq_true rfl) rfl dX3_addPoints_179 rfl (fun z11 T11 y11 => ?_)
      obtain ⟨rfl, u11, C11⟩ := y11
      rw [r10_p2, r10_q2] at C11
      obtain ⟨Q11, s11⟩ : ∃ Q, Q = va_up Q10 0 (mM (R (p + 2)) (R (q + 2))) := ⟨_, rfl⟩
      rw [← s11] at C11
      have r11 : Q11 0 = mM (R (p + 2)) (R (q + 2)) := by rw [s11]; exact va_up_self _ _ _
      have r11_2 : Q11 2 = mM (R p) (mM (R (q + 2)) (R (q + 2))) := by rw [s11]; exact (va_up_ne _ _ (by decide)).trans r10_2
      have r11_3 : Q11 3 = sM (mM (R q) (mM (R (p + 2)) (R (p + 2)))) (mM (R p) (mM (R (q + 2)) (R (q + 2)))) := by rw [s11]; exact (va_up_ne _ _ (by decide)).trans r10_3
      have r11_4 : Q11 4 = mM (mM (R (p + 1)) (R (q + 2))) (mM (R (q + 2)) (R (q + 2))) := by rw [s11]; exact (va_up_ne _ _ (by decide)).trans r10_4
      have r11_5 : Q11 5 = sM (mM (mM (R (q + 1)) (R (p + 2))) (mM (R (p + 2)) (R (p + 2)))) (mM (mM (R (p + 1)) (R (q + 2))) (mM (R (q + 2)) (R (q + 2)))) := by rw [s11]; exact (va_up_ne _ _ (by decide)).trans r10
      have O11 : ∀ j, 6 ≤ j → j ≠ o → j ≠ o + 1 → j ≠ o + 2 → Q11 j = R j := fun j h1 h2 h3 h4 => by rw [s11]; exact (va_up_ne _ _ (ne6 h1 (by decide))).trans (O10 j h1 h2 h3 h4)
      refine ks_aload_n dX3_addPoints_182 rfl rfl ?_
      refine ks_iload_n dX3_addPoints_183 rfl rfl ?_
      refine ks_bipush (x := nI 18) dX3_addPoints_184 (by decide) rfl ?_
      refine ks_addN dX3_addPoints_186 rfl ?_
      refine ks_iconst (x := nI 0) dX3_addPoints_187 (by decide) rfl ?_
      refine ks_bipush (x := nI 27) dX3_addPoints_188 (by decide) rfl ?_
      refine ks_callV (n := 3) (M' := mX3_multiply) (c_cvm (d := d + 1) (o := o + 2) (x := 0) (y := 3) C11 oc (by decide) (by decide) (Nat.lt_trans (lt_of_eq9 r11 (mM_lt _ _)) pP_lt) (Nat.lt_trans (lt_of_eq9 r11_3 (sM_lt _ _)) pP_lt)) C11.1 cl_X3 rfl kx_502 kx_504 kxp_2 kx_4 kx_505 (by decide +kernel) rfl (by decide) (Nat.le_of_ble_eq_true rfl) rfl dX3_addPoints_190 rfl (fun z12 T12 y12 => ?_)
      obtain ⟨rfl, u12, C12⟩ := y12
      rw [r11, r11_3] at C12
      obtain ⟨Q12, s12⟩ : ∃ Q, Q = va_up Q11 (o + 2) (mM (mM (R (p + 2)) (R (q + 2))) (sM (mM (R q) (mM (R (p + 2)) (R (p + 2)))) (mM (R p) (mM (R (q + 2)) (R (q + 2)))))) := ⟨_, rfl⟩
      rw [← s12] at C12
      have r12 : Q12 (o + 2) = mM (mM (R (p + 2)) (R (q + 2))) (sM (mM (R q) (mM (R (p + 2)) (R (p + 2)))) (mM (R p) (mM (R (q + 2)) (R (q + 2))))) := by rw [s12]; exact va_up_self _ _ _
      have r12_2 : Q12 2 = mM (R p) (mM (R (q + 2)) (R (q + 2))) := by rw [s12]; exact (va_up_ne _ _ (Ne.symm (ne6 o2 (by decide)))).trans r11_2
      have r12_3 : Q12 3 = sM (mM (R q) (mM (R (p + 2)) (R (p + 2)))) (mM (R p) (mM (R (q + 2)) (R (q + 2)))) := by rw [s12]; exact (va_up_ne _ _ (Ne.symm (ne6 o2 (by decide)))).trans r11_3
      have r12_4 : Q12 4 = mM (mM (R (p + 1)) (R (q + 2))) (mM (R (q + 2)) (R (q + 2))) := by rw [s12]; exact (va_up_ne _ _ (Ne.symm (ne6 o2 (by decide)))).trans r11_4
      have r12_5 : Q12 5 = sM (mM (mM (R (q + 1)) (R (p + 2))) (mM (R (p + 2)) (R (p + 2)))) (mM (mM (R (p + 1)) (R (q + 2))) (mM (R (q + 2)) (R (q + 2)))) := by rw [s12]; exact (va_up_ne _ _ (Ne.symm (ne6 o2 (by decide)))).trans r11_5
      have O12 : ∀ j, 6 ≤ j → j ≠ o → j ≠ o + 1 → j ≠ o + 2 → Q12 j = R j := fun j h1 h2 h3 h4 => by rw [s12]; exact (va_up_ne _ _ h4).trans (O11 j h1 h2 h3 h4)
      refine ks_aload_n dX3_addPoints_193 rfl rfl ?_
      refine ks_iconst (x := nI 0) dX3_addPoints_194 (by decide) rfl ?_
      refine ks_bipush (x := nI 27) dX3_addPoints_195 (by decide) rfl ?_
      refine ks_bipush (x := nI 27) dX3_addPoints_197 (by decide) rfl ?_
      refine ks_callV (n := 3) (M' := mX3_multiply) (c_cvm (d := d + 1) (o := 0) (x := 3) (y := 3) C12 (by decide) (by decide) (by decide) (Nat.lt_trans (lt_of_eq9 r12_3 (sM_lt _ _)) pP_lt) (Nat.lt_trans (lt_of_eq9 r12_3 (sM_lt _ _)) pP_lt)) C12.1 cl_X3 rfl kx_502 kx_504 kxp_2 kx_4 kx_505 (by decide +kernel) rfl (by decide) (Nat.le_of_ble_eq_true rfl) rfl dX3_addPoints_199 rfl (fun z13 T13 y13 => ?_)
      obtain ⟨rfl, u13, C13⟩ := y13
      rw [r12_3] at C13
      obtain ⟨Q13, s13⟩ : ∃ Q, Q = va_up Q12 0 (mM (sM (mM (R q) (mM (R (p + 2)) (R (p + 2)))) (mM (R p) (mM (R (q + 2)) (R (q + 2))))) (sM (mM (R q) (mM (R (p + 2)) (R (p + 2)))) (mM (R p) (mM (R (q + 2)) (R (q + 2)))))) := ⟨_, rfl⟩
      rw [← s13] at C13
      have r13 : Q13 0 = mM (sM (mM (R q) (mM (R (p + 2)) (R (p + 2)))) (mM (R p) (mM (R (q + 2)) (R (q + 2))))) (sM (mM (R q) (mM (R (p + 2)) (R (p + 2)))) (mM (R p) (mM (R (q + 2)) (R (q + 2))))) := by rw [s13]; exact va_up_self _ _ _
      have r13_2 : Q13 2 = mM (R p) (mM (R (q + 2)) (R (q + 2))) := by rw [s13]; exact (va_up_ne _ _ (by decide)).trans r12_2
      have r13_3 : Q13 3 = sM (mM (R q) (mM (R (p + 2)) (R (p + 2)))) (mM (R p) (mM (R (q + 2)) (R (q + 2)))) := by rw [s13]; exact (va_up_ne _ _ (by decide)).trans r12_3
      have r13_4 : Q13 4 = mM (mM (R (p + 1)) (R (q + 2))) (mM (R (q + 2)) (R (q + 2))) := by rw [s13]; exact (va_up_ne _ _ (by decide)).trans r12_4
      have r13_5 : Q13 5 = sM (mM (mM (R (q + 1)) (R (p + 2))) (mM (R (p + 2)) (R (p + 2)))) (mM (mM (R (p + 1)) (R (q + 2))) (mM (R (q + 2)) (R (q + 2)))) := by rw [s13]; exact (va_up_ne _ _ (by decide)).trans r12_5
      have r13_o2 : Q13 (o + 2) = mM (mM (R (p + 2)) (R (q + 2))) (sM (mM (R q) (mM (R (p + 2)) (R (p + 2)))) (mM (R p) (mM (R (q + 2)) (R (q + 2))))) := by rw [s13]; exact (va_up_ne _ _ (ne6 o2 (by decide))).trans r12
      have O13 : ∀ j, 6 ≤ j → j ≠ o → j ≠ o + 1 → j ≠ o + 2 → Q13 j = R j := fun j h1 h2 h3 h4 => by rw [s13]; exact (va_up_ne _ _ (ne6 h1 (by decide))).trans (O12 j h1 h2 h3 h4)
      refine ks_aload_n dX3_addPoints_202 rfl rfl ?_
      refine ks_bipush (x := nI 9) dX3_addPoints_203 (by decide) rfl ?_
      refine ks_iconst (x := nI 0) dX3_addPoints_205 (by decide) rfl ?_
      refine ks_bipush (x := nI 27) dX3_addPoints_206 (by decide) rfl ?_
      refine ks_callV (n := 3) (M' := mX3_multiply) (c_cvm (d := d + 1) (o := 1) (x := 0) (y := 3) C13 (by decide) (by decide) (by decide) (Nat.lt_trans (lt_of_eq9 r13 (mM_lt _ _)) pP_lt) (Nat.lt_trans (lt_of_eq9 r13_3 (sM_lt _ _)) pP_lt)) C13.1 cl_X3 rfl kx_502 kx_504 kxp_2 kx_4 kx_505 (by decide +kernel) rfl (by decide) (Nat.le_of_ble_eq_true rfl) rfl dX3_addPoints_208 rfl (fun z14 T14 y14 => ?_)
      obtain ⟨rfl, u14, C14⟩ := y14
      rw [r13, r13_3] at C14
      obtain ⟨Q14, s14⟩ : ∃ Q, Q = va_up Q13 1 (mM (mM (sM (mM (R q) (mM (R (p + 2)) (R (p + 2)))) (mM (R p) (mM (R (q + 2)) (R (q + 2))))) (sM (mM (R q) (mM (R (p + 2)) (R (p + 2)))) (mM (R p) (mM (R (q + 2)) (R (q + 2)))))) (sM (mM (R q) (mM (R (p + 2)) (R (p + 2)))) (mM (R p) (mM (R (q + 2)) (R (q + 2)))))) := ⟨_, rfl⟩
      rw [← s14] at C14
      have r14 : Q14 1 = mM (mM (sM (mM (R q) (mM (R (p + 2)) (R (p + 2)))) (mM (R p) (mM (R (q + 2)) (R (q + 2))))) (sM (mM (R q) (mM (R (p + 2)) (R (p + 2)))) (mM (R p) (mM (R (q + 2)) (R (q + 2)))))) (sM (mM (R q) (mM (R (p + 2)) (R (p + 2)))) (mM (R p) (mM (R (q + 2)) (R (q + 2))))) := by rw [s14]; exact va_up_self _ _ _
      have r14_0 : Q14 0 = mM (sM (mM (R q) (mM (R (p + 2)) (R (p + 2)))) (mM (R p) (mM (R (q + 2)) (R (q + 2))))) (sM (mM (R q) (mM (R (p + 2)) (R (p + 2)))) (mM (R p) (mM (R (q + 2)) (R (q + 2))))) := by rw [s14]; exact (va_up_ne _ _ (by decide)).trans r13
      have r14_2 : Q14 2 = mM (R p) (mM (R (q + 2)) (R (q + 2))) := by rw [s14]; exact (va_up_ne _ _ (by decide)).trans r13_2
      have r14_4 : Q14 4 = mM (mM (R (p + 1)) (R (q + 2))) (mM (R (q + 2)) (R (q + 2))) := by rw [s14]; exact (va_up_ne _ _ (by decide)).trans r13_4
      have r14_5 : Q14 5 = sM (mM (mM (R (q + 1)) (R (p + 2))) (mM (R (p + 2)) (R (p + 2)))) (mM (mM (R (p + 1)) (R (q + 2))) (mM (R (q + 2)) (R (q + 2)))) := by rw [s14]; exact (va_up_ne _ _ (by decide)).trans r13_5
      have r14_o2 : Q14 (o + 2) = mM (mM (R (p + 2)) (R (q + 2))) (sM (mM (R q) (mM (R (p + 2)) (R (p + 2)))) (mM (R p) (mM (R (q + 2)) (R (q + 2))))) := by rw [s14]; exact (va_up_ne _ _ (ne6 o2 (by decide))).trans r13_o2
      have O14 : ∀ j, 6 ≤ j → j ≠ o → j ≠ o + 1 → j ≠ o + 2 → Q14 j = R j := fun j h1 h2 h3 h4 => by rw [s14]; exact (va_up_ne _ _ (ne6 h1 (by decide))).trans (O13 j h1 h2 h3 h4)
      refine ks_aload_n dX3_addPoints_211 rfl rfl ?_
      refine ks_bipush (x := nI 18) dX3_addPoints_212 (by decide) rfl ?_
      refine ks_bipush (x := nI 18) dX3_addPoints_214 (by decide) rfl ?_
      refine ks_iconst (x := nI 0) dX3_addPoints_216 (by decide) rfl ?_
      refine ks_callV (n := 3) (M' := mX3_multiply) (c_cvm (d := d + 1) (o := 2) (x := 2) (y := 0) C14 (by decide) (by decide) (by decide) (Nat.lt_trans (lt_of_eq9 r14_2 (mM_lt _ _)) pP_lt) (Nat.lt_trans (lt_of_eq9 r14_0 (mM_lt _ _)) pP_lt)) C14.1 cl_X3 rfl kx_502 kx_504 kxp_2 kx_4 kx_505 (by decide +kernel) rfl (by decide) (Nat.le_of_ble_eq_true rfl) rfl dX3_addPoints_217 rfl (fun z15 T15 y15 => ?_)
      obtain ⟨rfl, u15, C15⟩ := y15
      rw [r14_2, r14_0] at C15
      obtain ⟨Q15, s15⟩ : ∃ Q, Q = va_up Q14 2 (mM (mM (R p) (mM (R (q + 2)) (R (q + 2)))) (mM (sM (mM (R q) (mM (R (p + 2)) (R (p + 2)))) (mM (R p) (mM (R (q + 2)) (R (q + 2))))) (sM (mM (R q) (mM (R (p + 2)) (R (p + 2)))) (mM (R p) (mM (R (q + 2)) (R (q + 2))))))) := ⟨_, rfl⟩
      rw [← s15] at C15
      have r15 : Q15 2 = mM (mM (R p) (mM (R (q + 2)) (R (q + 2)))) (mM (sM (mM (R q) (mM (R (p + 2)) (R (p + 2)))) (mM (R p) (mM (R (q + 2)) (R (q + 2))))) (sM (mM (R q) (mM (R (p + 2)) (R (p + 2)))) (mM (R p) (mM (R (q + 2)) (R (q + 2)))))) := by rw [s15]; exact va_up_self _ _ _
      have r15_1 : Q15 1 = mM (mM (sM (mM (R q) (mM (R (p + 2)) (R (p + 2)))) (mM (R p) (mM (R (q + 2)) (R (q + 2))))) (sM (mM (R q) (mM (R (p + 2)) (R (p + 2)))) (mM (R p) (mM (R (q + 2)) (R (q + 2)))))) (sM (mM (R q) (mM (R (p + 2)) (R (p + 2)))) (mM (R p) (mM (R (q + 2)) (R (q + 2))))) := by rw [s15]; exact (va_up_ne _ _ (by decide)).trans r14
      have r15_4 : Q15 4 = mM (mM (R (p + 1)) (R (q + 2))) (mM (R (q + 2)) (R (q + 2))) := by rw [s15]; exact (va_up_ne _ _ (by decide)).trans r14_4
      have r15_5 : Q15 5 = sM (mM (mM (R (q + 1)) (R (p + 2))) (mM (R (p + 2)) (R (p + 2)))) (mM (mM (R (p + 1)) (R (q + 2))) (mM (R (q + 2)) (R (q + 2)))) := by rw [s15]; exact (va_up_ne _ _ (by decide)).trans r14_5
      have r15_o2 : Q15 (o + 2) = mM (mM (R (p + 2)) (R (q + 2))) (sM (mM (R q) (mM (R (p + 2)) (R (p + 2)))) (mM (R p) (mM (R (q + 2)) (R (q + 2))))) := by rw [s15]; exact (va_up_ne _ _ (ne6 o2 (by decide))).trans r14_o2
      have O15 : ∀ j, 6 ≤ j → j ≠ o → j ≠ o + 1 → j ≠ o + 2 → Q15 j = R j := fun j h1 h2 h3 h4 => by rw [s15]; exact (va_up_ne _ _ (ne6 h1 (by decide))).trans (O14 j h1 h2 h3 h4)
      refine ks_aload_n dX3_addPoints_220 rfl rfl ?_
      refine ks_iconst (x := nI 0) dX3_addPoints_221 (by decide) rfl ?_
      refine ks_bipush (x := nI 45) dX3_addPoints_222 (by decide) rfl ?_
      refine ks_bipush (x := nI 45) dX3_addPoints_224 (by decide) rfl ?_
      refine ks_callV (n := 3) (M' := mX3_multiply) (c_cvm (d := d + 1) (o := 0) (x := 5) (y := 5) C15 (by decide) (by decide) (by decide) (Nat.lt_trans (lt_of_eq9 r15_5 (sM_lt _ _)) pP_lt) (Nat.lt_trans (lt_of_eq9 r15_5 (sM_lt _ _)) pP_lt)) C15.1 cl_X3 rfl kx_502 kx_504 kxp_2 kx_4 kx_505 (by decide +kernel) rfl (by decide) (Nat.le_of_ble_eq_true rfl) rfl dX3_addPoints_226 rfl (fun z16 T16 y16 => ?_)
      obtain ⟨rfl, u16, C16⟩ := y16
      rw [r15_5] at C16
      obtain ⟨Q16, s16⟩ : ∃ Q, Q = va_up Q15 0 (mM (sM (mM (mM (R (q + 1)) (R (p + 2))) (mM (R (p + 2)) (R (p + 2)))) (mM (mM (R (p + 1)) (R (q + 2))) (mM (R (q + 2)) (R (q + 2))))) (sM (mM (mM (R (q + 1)) (R (p + 2))) (mM (R (p + 2)) (R (p + 2)))) (mM (mM (R (p + 1)) (R (q + 2))) (mM (R (q + 2)) (R (q + 2)))))) := ⟨_, rfl⟩
      rw [← s16] at C16
      have r16 : Q16 0 = mM (sM (mM (mM (R (q + 1)) (R (p + 2))) (mM (R (p + 2)) (R (p + 2)))) (mM (mM (R (p + 1)) (R (q + 2))) (mM (R (q + 2)) (R (q + 2))))) (sM (mM (mM (R (q + 1)) (R (p + 2))) (mM (R (p + 2)) (R (p + 2)))) (mM (mM (R (p + 1)) (R (q + 2))) (mM (R (q + 2)) (R (q + 2))))) := by rw [s16]; exact va_up_self _ _ _
      have r16_1 : Q16 1 = mM (mM (sM (mM (R q) (mM (R (p + 2)) (R (p + 2)))) (mM (R p) (mM (R (q + 2)) (R (q + 2))))) (sM (mM (R q) (mM (R (p + 2)) (R (p + 2)))) (mM (R p) (mM (R (q + 2)) (R (q + 2)))))) (sM (mM (R q) (mM (R (p + 2)) (R (p + 2)))) (mM (R p) (mM (R (q + 2)) (R (q + 2))))) := by rw [s16]; exact (va_up_ne _ _ (by decide)).trans r15_1
      have r16_2 : Q16 2 = mM (mM (R p) (mM (R (q + 2)) (R (q + 2)))) (mM (sM (mM (R q) (mM (R (p + 2)) (R (p + 2)))) (mM (R p) (mM (R (q + 2)) (R (q + 2))))) (sM (mM (R q) (mM (R (p + 2)) (R (p + 2)))) (mM (R p) (mM (R (q + 2)) (R (q + 2)))))) := by rw [s16]; exact (va_up_ne _ _ (by decide)).trans r15
      have r16_4 : Q16 4 = mM (mM (R (p + 1)) (R (q + 2))) (mM (R (q + 2)) (R (q + 2))) := by rw [s16]; exact (va_up_ne _ _ (by decide)).trans r15_4
      have r16_5 : Q16 5 = sM (mM (mM (R (q + 1)) (R (p + 2))) (mM (R (p + 2)) (R (p + 2)))) (mM (mM (R (p + 1)) (R (q + 2))) (mM (R (q + 2)) (R (q + 2)))) := by rw [s16]; exact (va_up_ne _ _ (by decide)).trans r15_5
      have r16_o2 : Q16 (o + 2) = mM (mM (R (p + 2)) (R (q + 2))) (sM (mM (R q) (mM (R (p + 2)) (R (p + 2)))) (mM (R p) (mM (R (q + 2)) (R (q + 2))))) := by rw [s16]; exact (va_up_ne _ _ (ne6 o2 (by decide))).trans r15_o2
      have O16 : ∀ j, 6 ≤ j → j ≠ o → j ≠ o + 1 → j ≠ o + 2 → Q16 j = R j := fun j h1 h2 h3 h4 => by rw [s16]; exact (va_up_ne _ _ (ne6 h1 (by decide))).trans (O15 j h1 h2 h3 h4)
      refine ks_aload_n dX3_addPoints_229 rfl rfl ?_
      refine ks_getf (T := TX3) (kf := 0) kx_535 rfl in_X3 cl_X3 (by decide) C16.1 rfl dX3_addPoints_230 rfl ?_
      refine ks_iconst (x := nI 0) dX3_addPoints_233 (by decide) rfl ?_
      refine ks_iconst (x := nI 0) dX3_addPoints_234 (by decide) rfl ?_
      refine ks_bipush (x := nI 9) dX3_addPoints_235 (by decide) rfl ?_
      refine ks_callV (n := 3) (M' := mX5_subtract) (c_cvs (d := d + 1) (o := 0) (x := 0) (y := 1) C16 (by decide) (by decide) (by decide) (lt_of_eq9 r16 (mM_lt _ _)) (lt_of_eq9 r16_1 (mM_lt _ _))) C16.2.1.1 cl_X5 rfl kx_518 kx_519 kx_520 kx_5 kx_521 (by decide +kernel) rfl (by decide) (Nat.le_of_ble_eq_true rfl) rfl dX3_addPoints_237 rfl (fun z17 T17 y17 => ?_)
      obtain ⟨rfl, u17, C17⟩ := y17
      rw [r16, r16_1] at C17
      obtain ⟨Q17, s17⟩ : ∃ Q, Q = va_up Q16 0 (sM (mM (sM (mM (mM (R (q + 1)) (R (p + 2))) (mM (R (p + 2)) (R (p + 2)))) (mM (mM (R (p + 1)) (R (q + 2))) (mM (R (q + 2)) (R (q + 2))))) (sM (mM (mM (R (q + 1)) (R (p + 2))) (mM (R (p + 2)) (R (p + 2)))) (mM (mM (R (p + 1)) (R (q + 2))) (mM (R (q + 2)) (R (q + 2)))))) (mM (mM (sM (mM (R q) (mM (R (p + 2)) (R (p + 2)))) (mM (R p) (mM (R (q + 2)) (R (q + 2))))) (sM (mM (R q) (mM (R (p + 2)) (R (p + 2)))) (mM (R p) (mM (R (q + 2)) (R (q + 2)))))) (sM (mM (R q) (mM (R (p + 2)) (R (p + 2)))) (mM (R p) (mM (R (q + 2)) (R (q + 2))))))) := ⟨_, rfl⟩
      rw [← s17] at C17
      have r17 : Q17 0 = sM (mM (sM (mM (mM (R (q + 1)) (R (p + 2))) (mM (R (p + 2)) (R (p + 2)))) (mM (mM (R (p + 1)) (R (q + 2))) (mM (R (q + 2)) (R (q + 2))))) (sM (mM (mM (R (q + 1)) (R (p + 2))) (mM (R (p + 2)) (R (p + 2)))) (mM (mM (R (p + 1)) (R (q + 2))) (mM (R (q + 2)) (R (q + 2)))))) (mM (mM (sM (mM (R q) (mM (R (p + 2)) (R (p + 2)))) (mM (R p) (mM (R (q + 2)) (R (q + 2))))) (sM (mM (R q) (mM (R (p + 2)) (R (p + 2)))) (mM (R p) (mM (R (q + 2)) (R (q + 2)))))) (sM (mM (R q) (mM (R (p + 2)) (R (p + 2)))) (mM (R p) (mM (R (q + 2)) (R (q + 2)))))) := by rw [s17]; exact va_up_self _ _ _
      have r17_1 : Q17 1 = mM (mM (sM (mM (R q) (mM (R (p + 2)) (R (p + 2)))) (mM (R p) (mM (R (q + 2)) (R (q + 2))))) (sM (mM (R q) (mM (R (p + 2)) (R (p + 2)))) (mM (R p) (mM (R (q + 2)) (R (q + 2)))))) (sM (mM (R q) (mM (R (p + 2)) (R (p + 2)))) (mM (R p) (mM (R (q + 2)) (R (q + 2))))) := by rw [s17]; exact (va_up_ne _ _ (by decide)).trans r16_1
      have r17_2 : Q17 2 = mM (mM (R p) (mM (R (q + 2)) (R (q + 2)))) (mM (sM (mM (R q) (mM (R (p + 2)) (R (p + 2)))) (mM (R p) (mM (R (q + 2)) (R (q + 2))))) (sM (mM (R q) (mM (R (p + 2)) (R (p + 2)))) (mM (R p) (mM (R (q + 2)) (R (q + 2)))))) := by rw [s17]; exact (va_up_ne _ _ (by decide)).trans r16_2
      have r17_4 : Q17 4 = mM (mM (R (p + 1)) (R (q + 2))) (mM (R (q + 2)) (R (q + 2))) := by rw [s17]; exact (va_up_ne _ _ (by decide)).trans r16_4
      have r17_5 : Q17 5 = sM (mM (mM (R (q + 1)) (R (p + 2))) (mM (R (p + 2)) (R (p + 2)))) (mM (mM (R (p + 1)) (R (q + 2))) (mM (R (q + 2)) (R (q + 2)))) := by rw [s17]; exact (va_up_ne _ _ (by decide)).trans r16_5
      have r17_o2 : Q17 (o + 2) = mM (mM (R (p + 2)) (R (q + 2))) (sM (mM (R q) (mM (R (p + 2)) (R (p + 2)))) (mM (R p) (mM (R (q + 2)) (R (q + 2))))) := by rw [s17]; exact (va_up_ne _ _ (ne6 o2 (by decide))).trans r16_o2
      have O17 : ∀ j, 6 ≤ j → j ≠ o → j ≠ o + 1 → j ≠ o + 2 → Q17 j = R j := fun j h1 h2 h3 h4 => by rw [s17]; exact (va_up_ne _ _ (ne6 h1 (by decide))).trans (O16 j h1 h2 h3 h4)
      refine ks_aload_n dX3_addPoints_240 rfl rfl ?_
      refine ks_getf (T := TX3) (kf := 0) kx_535 rfl in_X3 cl_X3 (by decide) C17.1 rfl dX3_addPoints_241 rfl ?_
      refine ks_iconst (x := nI 0) dX3_addPoints_244 (by decide) rfl ?_
      refine ks_iconst (x := nI 0) dX3_addPoints_245 (by decide) rfl ?_
      refine ks_bipush (x := nI 18) dX3_addPoints_246 (by decide) rfl ?_
      refine ks_callV (n := 3) (M' := mX5_subtract) (c_cvs (d := d + 1) (o := 0) (x := 0) (y := 2) C17 (by decide) (by decide) (by decide) (lt_of_eq9 r17 (sM_lt _ _)) (lt_of_eq9 r17_2 (mM_lt _ _))) C17.2.1.1 cl_X5 rfl kx_518 kx_519 kx_520 kx_5 kx_521 (by decide +kernel) rfl (by decide) (Nat.le_of_ble_eq_true rfl) rfl dX3_addPoints_248 rfl (fun z18 T18 y18 => ?_)
      obtain ⟨rfl, u18, C18⟩ := y18
      rw [r17, r17_2] at C18
      obtain ⟨Q18, s18⟩ : ∃ Q, Q = va_up Q17 0 (sM (sM (mM (sM (mM (mM (R (q + 1)) (R (p + 2))) (mM (R (p + 2)) (R (p + 2)))) (mM (mM (R (p + 1)) (R (q + 2))) (mM (R (q + 2)) (R (q + 2))))) (sM (mM (mM (R (q + 1)) (R (p + 2))) (mM (R (p + 2)) (R (p + 2)))) (mM (mM (R (p + 1)) (R (q + 2))) (mM (R (q + 2)) (R (q + 2)))))) (mM (mM (sM (mM (R q) (mM (R (p + 2)) (R (p + 2)))) (mM (R p) (mM (R (q + 2)) (R (q + 2))))) (sM (mM (R q) (mM (R (p + 2)) (R (p + 2)))) (mM (R p) (mM (R (q + 2)) (R (q + 2)))))) (sM (mM (R q) (mM (R (p + 2)) (R (p + 2)))) (mM (R p) (mM (R (q + 2)) (R (q + 2))))))) (mM (mM (R p) (mM (R (q + 2)) (R (q + 2)))) (mM (sM (mM (R q) (mM (R (p + 2)) (R (p + 2)))) (mM (R p) (mM (R (q + 2)) (R (q + 2))))) (sM (mM (R q) (mM (R (p + 2)) (R (p + 2)))) (mM (R p) (mM (R (q + 2)) (R (q + 2)))))))) := ⟨_, rfl⟩
      rw [← s18] at C18
      have r18 : Q18 0 = sM (sM (mM (sM (mM (mM (R (q + 1)) (R (p + 2))) (mM (R (p + 2)) (R (p + 2)))) (mM (mM (R (p + 1)) (R (q + 2))) (mM (R (q + 2)) (R (q + 2))))) (sM (mM (mM (R (q + 1)) (R (p + 2))) (mM (R (p + 2)) (R (p + 2)))) (mM (mM (R (p + 1)) (R (q + 2))) (mM (R (q + 2)) (R (q + 2)))))) (mM (mM (sM (mM (R q) (mM (R (p + 2)) (R (p + 2)))) (mM (R p) (mM (R (q + 2)) (R (q + 2))))) (sM (mM (R q) (mM (R (p + 2)) (R (p + 2)))) (mM (R p) (mM (R (q + 2)) (R (q + 2)))))) (sM (mM (R q) (mM (R (p + 2)) (R (p + 2)))) (mM (R p) (mM (R (q + 2)) (R (q + 2))))))) (mM (mM (R p) (mM (R (q + 2)) (R (q + 2)))) (mM (sM (mM (R q) (mM (R (p + 2)) (R (p + 2)))) (mM (R p) (mM (R (q + 2)) (R (q + 2))))) (sM (mM (R q) (mM (R (p + 2)) (R (p + 2)))) (mM (R p) (mM (R (q + 2)) (R (q + 2))))))) := by rw [s18]; exact va_up_self _ _ _
      have r18_1 : Q18 1 = mM (mM (sM (mM (R q) (mM (R (p + 2)) (R (p + 2)))) (mM (R p) (mM (R (q + 2)) (R (q + 2))))) (sM (mM (R q) (mM (R (p + 2)) (R (p + 2)))) (mM (R p) (mM (R (q + 2)) (R (q + 2)))))) (sM (mM (R q) (mM (R (p + 2)) (R (p + 2)))) (mM (R p) (mM (R (q + 2)) (R (q + 2))))) := by rw [s18]; exact (va_up_ne _ _ (by decide)).trans r17_1
      have r18_2 : Q18 2 = mM (mM (R p) (mM (R (q + 2)) (R (q + 2)))) (mM (sM (mM (R q) (mM (R (p + 2)) (R (p + 2)))) (mM (R p) (mM (R (q + 2)) (R (q + 2))))) (sM (mM (R q) (mM (R (p + 2)) (R (p + 2)))) (mM (R p) (mM (R (q + 2)) (R (q + 2)))))) := by rw [s18]; exact (va_up_ne _ _ (by decide)).trans r17_2
      have r18_4 : Q18 4 = mM (mM (R (p + 1)) (R (q + 2))) (mM (R (q + 2)) (R (q + 2))) := by rw [s18]; exact (va_up_ne _ _ (by decide)).trans r17_4
      have r18_5 : Q18 5 = sM (mM (mM (R (q + 1)) (R (p + 2))) (mM (R (p + 2)) (R (p + 2)))) (mM (mM (R (p + 1)) (R (q + 2))) (mM (R (q + 2)) (R (q + 2)))) := by rw [s18]; exact (va_up_ne _ _ (by decide)).trans r17_5
      have r18_o2 : Q18 (o + 2) = mM (mM (R (p + 2)) (R (q + 2))) (sM (mM (R q) (mM (R (p + 2)) (R (p + 2)))) (mM (R p) (mM (R (q + 2)) (R (q + 2))))) := by rw [s18]; exact (va_up_ne _ _ (ne6 o2 (by decide))).trans r17_o2
      have O18 : ∀ j, 6 ≤ j → j ≠ o → j ≠ o + 1 → j ≠ o + 2 → Q18 j = R j := fun j h1 h2 h3 h4 => by rw [s18]; exact (va_up_ne _ _ (ne6 h1 (by decide))).trans (O17 j h1 h2 h3 h4)
      refine ks_aload_n dX3_addPoints_251 rfl rfl ?_
      refine ks_getf (T := TX3) (kf := 0) kx_535 rfl in_X3 cl_X3 (by decide) C18.1 rfl dX3_addPoints_252 rfl ?_
      refine ks_iload_n dX3_addPoints_255 rfl rfl ?_
      refine ks_iconst (x := nI 0) dX3_addPoints_256 (by decide) rfl ?_
      refine ks_bipush (x := nI 18) dX3_addPoints_257 (by decide) rfl ?_
      refine ks_callV (n := 3) (M' := mX5_subtract) (c_cvs (d := d + 1) (o := o) (x := 0) (y := 2) C18 oa (by decide) (by decide) (lt_of_eq9 r18 (sM_lt _ _)) (lt_of_eq9 r18_2 (mM_lt _ _))) C18.2.1.1 cl_X5 rfl kx_518 kx_519 kx_520 kx_5 kx_521 (by decide +kernel) rfl (by decide) (Nat.le_of_ble_eq_true rfl) rfl dX3_addPoints_259 rfl (fun z19 T19 y19 => ?_)
      obtain ⟨rfl, u19, C19⟩ := y19
      rw [r18, r18_2] at C19
      obtain ⟨Q19, s19⟩ : ∃ Q, Q = va_up Q18 o (sM (sM (sM (mM (sM (mM (mM (R (q + 1)) (R (p + 2))) (mM (R (p + 2)) (R (p + 2)))) (mM (mM (R (p + 1)) (R (q + 2))) (mM (R (q + 2)) (R (q + 2))))) (sM (mM (mM (R (q + 1)) (R (p + 2))) (mM (R (p + 2)) (R (p + 2)))) (mM (mM (R (p + 1)) (R (q + 2))) (mM (R (q + 2)) (R (q + 2)))))) (mM (mM (sM (mM (R q) (mM (R (p + 2)) (R (p + 2)))) (mM (R p) (mM (R (q + 2)) (R (q + 2))))) (sM (mM (R q) (mM (R (p + 2)) (R (p + 2)))) (mM (R p) (mM (R (q + 2)) (R (q + 2)))))) (sM (mM (R q) (mM (R (p + 2)) (R (p + 2)))) (mM (R p) (mM (R (q + 2)) (R (q + 2))))))) (mM (mM (R p) (mM (R (q + 2)) (R (q + 2)))) (mM (sM (mM (R q) (mM (R (p + 2)) (R (p + 2)))) (mM (R p) (mM (R (q + 2)) (R (q + 2))))) (sM (mM (R q) (mM (R (p + 2)) (R (p + 2)))) (mM (R p) (mM (R (q + 2)) (R (q + 2)))))))) (mM (mM (R p) (mM (R (q + 2)) (R (q + 2)))) (mM (sM (mM (R q) (mM (R (p + 2)) (R (p + 2)))) (mM (R p) (mM (R (q + 2)) (R (q + 2))))) (sM (mM (R q) (mM (R (p + 2)) (R (p + 2)))) (mM (R p) (mM (R (q + 2)) (R (q + 2)))))))) := ⟨_, rfl⟩
      rw [← s19] at C19
      have r19 : Q19 o = sM (sM (sM (mM (sM (mM (mM (R (q + 1)) (R (p + 2))) (mM (R (p + 2)) (R (p + 2)))) (mM (mM (R (p + 1)) (R (q + 2))) (mM (R (q + 2)) (R (q + 2))))) (sM (mM (mM (R (q + 1)) (R (p + 2))) (mM (R (p + 2)) (R (p + 2)))) (mM (mM (R (p + 1)) (R (q + 2))) (mM (R (q + 2)) (R (q + 2)))))) (mM (mM (sM (mM (R q) (mM (R (p + 2)) (R (p + 2)))) (mM (R p) (mM (R (q + 2)) (R (q + 2))))) (sM (mM (R q) (mM (R (p + 2)) (R (p + 2)))) (mM (R p) (mM (R (q + 2)) (R (q + 2)))))) (sM (mM (R q) (mM (R (p + 2)) (R (p + 2)))) (mM (R p) (mM (R (q + 2)) (R (q + 2))))))) (mM (mM (R p) (mM (R (q + 2)) (R (q + 2)))) (mM (sM (mM (R q) (mM (R (p + 2)) (R (p + 2)))) (mM (R p) (mM (R (q + 2)) (R (q + 2))))) (sM (mM (R q) (mM (R (p + 2)) (R (p + 2)))) (mM (R p) (mM (R (q + 2)) (R (q + 2)))))))) (mM (mM (R p) (mM (R (q + 2)) (R (q + 2)))) (mM (sM (mM (R q) (mM (R (p + 2)) (R (p + 2)))) (mM (R p) (mM (R (q + 2)) (R (q + 2))))) (sM (mM (R q) (mM (R (p + 2)) (R (p + 2)))) (mM (R p) (mM (R (q + 2)) (R (q + 2))))))) := by rw [s19]; exact va_up_self _ _ _
      have r19_1 : Q19 1 = mM (mM (sM (mM (R q) (mM (R (p + 2)) (R (p + 2)))) (mM (R p) (mM (R (q + 2)) (R (q + 2))))) (sM (mM (R q) (mM (R (p + 2)) (R (p + 2)))) (mM (R p) (mM (R (q + 2)) (R (q + 2)))))) (sM (mM (R q) (mM (R (p + 2)) (R (p + 2)))) (mM (R p) (mM (R (q + 2)) (R (q + 2))))) := by rw [s19]; exact (va_up_ne _ _ (Ne.symm (ne6 o0 (by decide)))).trans r18_1
      have r19_2 : Q19 2 = mM (mM (R p) (mM (R (q + 2)) (R (q + 2)))) (mM (sM (mM (R q) (mM (R (p + 2)) (R (p + 2)))) (mM (R p) (mM (R (q + 2)) (R (q + 2))))) (sM (mM (R q) (mM (R (p + 2)) (R (p + 2)))) (mM (R p) (mM (R (q + 2)) (R (q + 2)))))) := by rw [s19]; exact (va_up_ne _ _ (Ne.symm (ne6 o0 (by decide)))).trans r18_2
      have r19_4 : Q19 4 = mM (mM (R (p + 1)) (R (q + 2))) (mM (R (q + 2)) (R (q + 2))) := by rw [s19]; exact (va_up_ne _ _ (Ne.symm (ne6 o0 (by decide)))).trans r18_4
      have r19_5 : Q19 5 = sM (mM (mM (R (q + 1)) (R (p + 2))) (mM (R (p + 2)) (R (p + 2)))) (mM (mM (R (p + 1)) (R (q + 2))) (mM (R (q + 2)) (R (q + 2)))) := by rw [s19]; exact (va_up_ne _ _ (Ne.symm (ne6 o0 (by decide)))).trans r18_5
      have r19_o2 : Q19 (o + 2) = mM (mM (R (p + 2)) (R (q + 2))) (sM (mM (R q) (mM (R (p + 2)) (R (p + 2)))) (mM (R p) (mM (R (q + 2)) (R (q + 2))))) := by rw [s19]; exact (va_up_ne _ _ (Ne.symm n02)).trans r18_o2
      have O19 : ∀ j, 6 ≤ j → j ≠ o → j ≠ o + 1 → j ≠ o + 2 → Q19 j = R j := fun j h1 h2 h3 h4 => by rw [s19]; exact (va_up_ne _ _ h2).trans (O18 j h1 h2 h3 h4)
      refine ks_aload_n dX3_addPoints_262 rfl rfl ?_
      refine ks_getf (T := TX3) (kf := 0) kx_535 rfl in_X3 cl_X3 (by decide) C19.1 rfl dX3_addPoints_263 rfl ?_
      refine ks_bipush (x := nI 18) dX3_addPoints_266 (by decide) rfl ?_
      refine ks_bipush (x := nI 18) dX3_addPoints_268 (by decide) rfl ?_
      refine ks_iload_n dX3_addPoints_270 rfl rfl ?_
      refine ks_callV (n := 3) (M' := mX5_subtract) (c_cvs (d := d + 1) (o := 2) (x := 2) (y := o) C19 (by decide) (by decide) (Nat.lt_trans oa (by decide)) (lt_of_eq9 r19_2 (mM_lt _ _)) (lt_of_eq9 r19 (sM_lt _ _))) C19.2.1.1 cl_X5 rfl kx_518 kx_519 kx_520 kx_5 kx_521 (by decide +kernel) rfl (by decide) (Nat.le_of_ble_eq_true rfl) rfl dX3_addPoints_271 rfl (fun z20 T20 y20 => ?_)
      obtain ⟨rfl, u20, C20⟩ := y20
      rw [r19_2, r19] at C20
      obtain ⟨Q20, s20⟩ : ∃ Q, Q = va_up Q19 2 (sM (mM (mM (R p) (mM (R (q + 2)) (R (q + 2)))) (mM (sM (mM (R q) (mM (R (p + 2)) (R (p + 2)))) (mM (R p) (mM (R (q + 2)) (R (q + 2))))) (sM (mM (R q) (mM (R (p + 2)) (R (p + 2)))) (mM (R p) (mM (R (q + 2)) (R (q + 2))))))) (sM (sM (sM (mM (sM (mM (mM (R (q + 1)) (R (p + 2))) (mM (R (p + 2)) (R (p + 2)))) (mM (mM (R (p + 1)) (R (q + 2))) (mM (R (q + 2)) (R (q + 2))))) (sM (mM (mM (R (q + 1)) (R (p + 2))) (mM (R (p + 2)) (R (p + 2)))) (mM (mM (R (p + 1)) (R (q + 2))) (mM (R (q + 2)) (R (q + 2)))))) (mM (mM (sM (mM (R q) (mM (R (p + 2)) (R (p + 2)))) (mM (R p) (mM (R (q + 2)) (R (q + 2))))) (sM (mM (R q) (mM (R (p + 2)) (R (p + 2)))) (mM (R p) (mM (R (q + 2)) (R (q + 2)))))) (sM (mM (R q) (mM (R (p + 2)) (R (p + 2)))) (mM (R p) (mM (R (q + 2)) (R (q + 2))))))) (mM (mM (R p) (mM (R (q + 2)) (R (q + 2)))) (mM (sM (mM (R q) (mM (R (p + 2)) (R (p + 2)))) (mM (R p) (mM (R (q + 2)) (R (q + 2))))) (sM (mM (R q) (mM (R (p + 2)) (R (p + 2)))) (mM (R p) (mM (R (q + 2)) (R (q + 2)))))))) (mM (mM (R p) (mM (R (q + 2)) (R (q + 2)))) (mM (sM (mM (R q) (mM (R (p + 2)) (R (p + 2)))) (mM (R p) (mM (R (q + 2)) (R (q + 2))))) (sM (mM (R q) (mM (R (p + 2)) (R (p + 2)))) (mM (R p) (mM (R (q + 2)) (R (q + 2))))))))) := ⟨_, rfl⟩
      rw [← s20] at C20
      have r20 : Q20 2 = sM (mM (mM (R p) (mM (R (q + 2)) (R (q + 2)))) (mM (sM (mM (R q) (mM (R (p + 2)) (R (p + 2)))) (mM (R p) (mM (R (q + 2)) (R (q + 2))))) (sM (mM (R q) (mM (R (p + 2)) (R (p + 2)))) (mM (R p) (mM (R (q + 2)) (R (q + 2))))))) (sM (sM (sM (mM (sM (mM (mM (R (q + 1)) (R (p + 2))) (mM (R (p + 2)) (R (p + 2)))) (mM (mM (R (p + 1)) (R (q + 2))) (mM (R (q + 2)) (R (q + 2))))) (sM (mM (mM (R (q + 1)) (R (p + 2))) (mM (R (p + 2)) (R (p + 2)))) (mM (mM (R (p + 1)) (R (q + 2))) (mM (R (q + 2)) (R (q + 2)))))) (mM (mM (sM (mM (R q) (mM (R (p + 2)) (R (p + 2)))) (mM (R p) (mM (R (q + 2)) (R (q + 2))))) (sM (mM (R q) (mM (R (p + 2)) (R (p + 2)))) (mM (R p) (mM (R (q + 2)) (R (q + 2)))))) (sM (mM (R q) (mM (R (p + 2)) (R (p + 2)))) (mM (R p) (mM (R (q + 2)) (R (q + 2))))))) (mM (mM (R p) (mM (R (q + 2)) (R (q + 2)))) (mM (sM (mM (R q) (mM (R (p + 2)) (R (p + 2)))) (mM (R p) (mM (R (q + 2)) (R (q + 2))))) (sM (mM (R q) (mM (R (p + 2)) (R (p + 2)))) (mM (R p) (mM (R (q + 2)) (R (q + 2)))))))) (mM (mM (R p) (mM (R (q + 2)) (R (q + 2)))) (mM (sM (mM (R q) (mM (R (p + 2)) (R (p + 2)))) (mM (R p) (mM (R (q + 2)) (R (q + 2))))) (sM (mM (R q) (mM (R (p + 2)) (R (p + 2)))) (mM (R p) (mM (R (q + 2)) (R (q + 2)))))))) := by rw [s20]; exact va_up_self _ _ _
      have r20_1 : Q20 1 = mM (mM (sM (mM (R q) (mM (R (p + 2)) (R (p + 2)))) (mM (R p) (mM (R (q + 2)) (R (q + 2))))) (sM (mM (R q) (mM (R (p + 2)) (R (p + 2)))) (mM (R p) (mM (R (q + 2)) (R (q + 2)))))) (sM (mM (R q) (mM (R (p + 2)) (R (p + 2)))) (mM (R p) (mM (R (q + 2)) (R (q + 2))))) := by rw [s20]; exact (va_up_ne _ _ (by decide)).trans r19_1
      have r20_4 : Q20 4 = mM (mM (R (p + 1)) (R (q + 2))) (mM (R (q + 2)) (R (q + 2))) := by rw [s20]; exact (va_up_ne _ _ (by decide)).trans r19_4
      have r20_5 : Q20 5 = sM (mM (mM (R (q + 1)) (R (p + 2))) (mM (R (p + 2)) (R (p + 2)))) (mM (mM (R (p + 1)) (R (q + 2))) (mM (R (q + 2)) (R (q + 2)))) := by rw [s20]; exact (va_up_ne _ _ (by decide)).trans r19_5
      have r20_o : Q20 o = sM (sM (sM (mM (sM (mM (mM (R (q + 1)) (R (p + 2))) (mM (R (p + 2)) (R (p + 2)))) (mM (mM (R (p + 1)) (R (q + 2))) (mM (R (q + 2)) (R (q + 2))))) (sM (mM (mM (R (q + 1)) (R (p + 2))) (mM (R (p + 2)) (R (p + 2)))) (mM (mM (R (p + 1)) (R (q + 2))) (mM (R (q + 2)) (R (q + 2)))))) (mM (mM (sM (mM (R q) (mM (R (p + 2)) (R (p + 2)))) (mM (R p) (mM (R (q + 2)) (R (q + 2))))) (sM (mM (R q) (mM (R (p + 2)) (R (p + 2)))) (mM (R p) (mM (R (q + 2)) (R (q + 2)))))) (sM (mM (R q) (mM (R (p + 2)) (R (p + 2)))) (mM (R p) (mM (R (q + 2)) (R (q + 2))))))) (mM (mM (R p) (mM (R (q + 2)) (R (q + 2)))) (mM (sM (mM (R q) (mM (R (p + 2)) (R (p + 2)))) (mM (R p) (mM (R (q + 2)) (R (q + 2))))) (sM (mM (R q) (mM (R (p + 2)) (R (p + 2)))) (mM (R p) (mM (R (q + 2)) (R (q + 2)))))))) (mM (mM (R p) (mM (R (q + 2)) (R (q + 2)))) (mM (sM (mM (R q) (mM (R (p + 2)) (R (p + 2)))) (mM (R p) (mM (R (q + 2)) (R (q + 2))))) (sM (mM (R q) (mM (R (p + 2)) (R (p + 2)))) (mM (R p) (mM (R (q + 2)) (R (q + 2))))))) := by rw [s20]; exact (va_up_ne _ _ (ne6 o0 (by decide))).trans r19
      have r20_o2 : Q20 (o + 2) = mM (mM (R (p + 2)) (R (q + 2))) (sM (mM (R q) (mM (R (p + 2)) (R (p + 2)))) (mM (R p) (mM (R (q + 2)) (R (q + 2))))) := by rw [s20]; exact (va_up_ne _ _ (ne6 o2 (by decide))).trans r19_o2
      have O20 : ∀ j, 6 ≤ j → j ≠ o → j ≠ o + 1 → j ≠ o + 2 → Q20 j = R j := fun j h1 h2 h3 h4 => by rw [s20]; exact (va_up_ne _ _ (ne6 h1 (by decide))).trans (O19 j h1 h2 h3 h4)
      refine ks_aload_n dX3_addPoints_274 rfl rfl ?_
      refine ks_bipush (x := nI 18) dX3_addPoints_275 (by decide) rfl ?_
      refine ks_bipush (x := nI 18) dX3_addPoints_277 (by decide) rfl ?_
      refine ks_bipush (x := nI 45) dX3_addPoints_279 (by decide) rfl ?_
      refine ks_callV (n := 3) (M' := mX3_multiply) (c_cvm (d := d + 1) (o := 2) (x := 2) (y := 5) C20 (by decide) (by decide) (by decide) (Nat.lt_trans (lt_of_eq9 r20 (sM_lt _ _)) pP_lt) (Nat.lt_trans (lt_of_eq9 r20_5 (sM_lt _ _)) pP_lt)) C20.1 cl_X3 rfl kx_502 kx_504 kxp_2 kx_4 kx_505 (by decide +kernel) rfl (by decide) (Nat.le_of_ble_eq_true rfl) rfl dX3_addPoints_281 rfl (fun z21 T21 y21 => ?_)
      obtain ⟨rfl, u21, C21⟩ := y21
      rw [r20, r20_5] at C21
      obtain ⟨Q21, s21⟩ : ∃ Q, Q = va_up Q20 2 (mM (sM (mM (mM (R p) (mM (R (q + 2)) (R (q + 2)))) (mM (sM (mM (R q) (mM (R (p + 2)) (R (p + 2)))) (mM (R p) (mM (R (q + 2)) (R (q + 2))))) (sM (mM (R q) (mM (R (p + 2)) (R (p + 2)))) (mM (R p) (mM (R (q + 2)) (R (q + 2))))))) (sM (sM (sM (mM (sM (mM (mM (R (q + 1)) (R (p + 2))) (mM (R (p + 2)) (R (p + 2)))) (mM (mM (R (p + 1)) (R (q + 2))) (mM (R (q + 2)) (R (q + 2))))) (sM (mM (mM (R (q + 1)) (R (p + 2))) (mM (R (p + 2)) (R (p + 2)))) (mM (mM (R (p + 1)) (R (q + 2))) (mM (R (q + 2)) (R (q + 2)))))) (mM (mM (sM (mM (R q) (mM (R (p + 2)) (R (p + 2)))) (mM (R p) (mM (R (q + 2)) (R (q + 2))))) (sM (mM (R q) (mM (R (p + 2)) (R (p + 2)))) (mM (R p) (mM (R (q + 2)) (R (q + 2)))))) (sM (mM (R q) (mM (R (p + 2)) (R (p + 2)))) (mM (R p) (mM (R (q + 2)) (R (q + 2))))))) (mM (mM (R p) (mM (R (q + 2)) (R (q + 2)))) (mM (sM (mM (R q) (mM (R (p + 2)) (R (p + 2)))) (mM (R p) (mM (R (q + 2)) (R (q + 2))))) (sM (mM (R q) (mM (R (p + 2)) (R (p + 2)))) (mM (R p) (mM (R (q + 2)) (R (q + 2)))))))) (mM (mM (R p) (mM (R (q + 2)) (R (q + 2)))) (mM (sM (mM (R q) (mM (R (p + 2)) (R (p + 2)))) (mM (R p) (mM (R (q + 2)) (R (q + 2))))) (sM (mM (R q) (mM (R (p + 2)) (R (p + 2)))) (mM (R p) (mM (R (q + 2)) (R (q + 2))))))))) (sM (mM (mM (R (q + 1)) (R (p + 2))) (mM (R (p + 2)) (R (p + 2)))) (mM (mM (R (p + 1)) (R (q + 2))) (mM (R (q + 2)) (R (q + 2)))))) := ⟨_, rfl⟩
      rw [← s21] at C21
      have r21 : Q21 2 = mM (sM (mM (mM (R p) (mM (R (q + 2)) (R (q + 2)))) (mM (sM (mM (R q) (mM (R (p + 2)) (R (p + 2)))) (mM (R p) (mM (R (q + 2)) (R (q + 2))))) (sM (mM (R q) (mM (R (p + 2)) (R (p + 2)))) (mM (R p) (mM (R (q + 2)) (R (q + 2))))))) (sM (sM (sM (mM (sM (mM (mM (R (q + 1)) (R (p + 2))) (mM (R (p + 2)) (R (p + 2)))) (mM (mM (R (p + 1)) (R (q + 2))) (mM (R (q + 2)) (R (q + 2))))) (sM (mM (mM (R (q + 1)) (R (p + 2))) (mM (R (p + 2)) (R (p + 2)))) (mM (mM (R (p + 1)) (R (q + 2))) (mM (R (q + 2)) (R (q + 2)))))) (mM (mM (sM (mM (R q) (mM (R (p + 2)) (R (p + 2)))) (mM (R p) (mM (R (q + 2)) (R (q + 2))))) (sM (mM (R q) (mM (R (p + 2)) (R (p + 2)))) (mM (R p) (mM (R (q + 2)) (R (q + 2)))))) (sM (mM (R q) (mM (R (p + 2)) (R (p + 2)))) (mM (R p) (mM (R (q + 2)) (R (q + 2))))))) (mM (mM (R p) (mM (R (q + 2)) (R (q + 2)))) (mM (sM (mM (R q) (mM (R (p + 2)) (R (p + 2)))) (mM (R p) (mM (R (q + 2)) (R (q + 2))))) (sM (mM (R q) (mM (R (p + 2)) (R (p + 2)))) (mM (R p) (mM (R (q + 2)) (R (q + 2)))))))) (mM (mM (R p) (mM (R (q + 2)) (R (q + 2)))) (mM (sM (mM (R q) (mM (R (p + 2)) (R (p + 2)))) (mM (R p) (mM (R (q + 2)) (R (q + 2))))) (sM (mM (R q) (mM (R (p + 2)) (R (p + 2)))) (mM (R p) (mM (R (q + 2)) (R (q + 2))))))))) (sM (mM (mM (R (q + 1)) (R (p + 2))) (mM (R (p + 2)) (R (p + 2)))) (mM (mM (R (p + 1)) (R (q + 2))) (mM (R (q + 2)) (R (q + 2))))) := by rw [s21]; exact va_up_self _ _ _
      have r21_1 : Q21 1 = mM (mM (sM (mM (R q) (mM (R (p + 2)) (R (p + 2)))) (mM (R p) (mM (R (q + 2)) (R (q + 2))))) (sM (mM (R q) (mM (R (p + 2)) (R (p + 2)))) (mM (R p) (mM (R (q + 2)) (R (q + 2)))))) (sM (mM (R q) (mM (R (p + 2)) (R (p + 2)))) (mM (R p) (mM (R (q + 2)) (R (q + 2))))) := by rw [s21]; exact (va_up_ne _ _ (by decide)).trans r20_1
      have r21_4 : Q21 4 = mM (mM (R (p + 1)) (R (q + 2))) (mM (R (q + 2)) (R (q + 2))) := by rw [s21]; exact (va_up_ne _ _ (by decide)).trans r20_4
      have r21_o : Q21 o = sM (sM (sM (mM (sM (mM (mM (R (q + 1)) (R (p + 2))) (mM (R (p + 2)) (R (p + 2)))) (mM (mM (R (p + 1)) (R (q + 2))) (mM (R (q + 2)) (R (q + 2))))) (sM (mM (mM (R (q + 1)) (R (p + 2))) (mM (R (p + 2)) (R (p + 2)))) (mM (mM (R (p + 1)) (R (q + 2))) (mM (R (q + 2)) (R (q + 2)))))) (mM (mM (sM (mM (R q) (mM (R (p + 2)) (R (p + 2)))) (mM (R p) (mM (R (q + 2)) (R (q + 2))))) (sM (mM (R q) (mM (R (p + 2)) (R (p + 2)))) (mM (R p) (mM (R (q + 2)) (R (q + 2)))))) (sM (mM (R q) (mM (R (p + 2)) (R (p + 2)))) (mM (R p) (mM (R (q + 2)) (R (q + 2))))))) (mM (mM (R p) (mM (R (q + 2)) (R (q + 2)))) (mM (sM (mM (R q) (mM (R (p + 2)) (R (p + 2)))) (mM (R p) (mM (R (q + 2)) (R (q + 2))))) (sM (mM (R q) (mM (R (p + 2)) (R (p + 2)))) (mM (R p) (mM (R (q + 2)) (R (q + 2)))))))) (mM (mM (R p) (mM (R (q + 2)) (R (q + 2)))) (mM (sM (mM (R q) (mM (R (p + 2)) (R (p + 2)))) (mM (R p) (mM (R (q + 2)) (R (q + 2))))) (sM (mM (R q) (mM (R (p + 2)) (R (p + 2)))) (mM (R p) (mM (R (q + 2)) (R (q + 2))))))) := by rw [s21]; exact (va_up_ne _ _ (ne6 o0 (by decide))).trans r20_o
      have r21_o2 : Q21 (o + 2) = mM (mM (R (p + 2)) (R (q + 2))) (sM (mM (R q) (mM (R (p + 2)) (R (p + 2)))) (mM (R p) (mM (R (q + 2)) (R (q + 2))))) := by rw [s21]; exact (va_up_ne _ _ (ne6 o2 (by decide))).trans r20_o2
      have O21 : ∀ j, 6 ≤ j → j ≠ o → j ≠ o + 1 → j ≠ o + 2 → Q21 j = R j := fun j h1 h2 h3 h4 => by rw [s21]; exact (va_up_ne _ _ (ne6 h1 (by decide))).trans (O20 j h1 h2 h3 h4)
      refine ks_aload_n dX3_addPoints_284 rfl rfl ?_
      refine ks_bipush (x := nI 36) dX3_addPoints_285 (by decide) rfl ?_
      refine ks_bipush (x := nI 36) dX3_addPoints_287 (by decide) rfl ?_
      refine ks_bipush (x := nI 9) dX3_addPoints_289 (by decide) rfl ?_
      refine ks_callV (n := 3) (M' := mX3_multiply) (c_cvm (d := d + 1) (o := 4) (x := 4) (y := 1) C21 (by decide) (by decide) (by decide) (Nat.lt_trans (lt_of_eq9 r21_4 (mM_lt _ _)) pP_lt) (Nat.lt_trans (lt_of_eq9 r21_1 (mM_lt _ _)) pP_lt)) C21.1 cl_X3 rfl kx_502 kx_504 kxp_2 kx_4 kx_505 (by decide +kernel) rfl (by decide) (Nat.le_of_ble_eq_true rfl) rfl dX3_addPoints_291 rfl (fun z22 T22 y22 => ?_)
      obtain ⟨rfl, u22, C22⟩ := y22
      rw [r21_4, r21_1] at C22
      obtain ⟨Q22, s22⟩ : ∃ Q, Q = va_up Q21 4 (mM (mM (mM (R (p + 1)) (R (q + 2))) (mM (R (q + 2)) (R (q + 2)))) (mM (mM (sM (mM (R q) (mM (R (p + 2)) (R (p + 2)))) (mM (R p) (mM (R (q + 2)) (R (q + 2))))) (sM (mM (R q) (mM (R (p + 2)) (R (p + 2)))) (mM (R p) (mM (R (q + 2)) (R (q + 2)))))) (sM (mM (R q) (mM (R (p + 2)) (R (p + 2)))) (mM (R p) (mM (R (q + 2)) (R (q + 2))))))) := ⟨_, rfl⟩
      rw [← s22] at C22
      have r22 : Q22 4 = mM (mM (mM (R (p + 1)) (R (q + 2))) (mM (R (q + 2)) (R (q + 2)))) (mM (mM (sM (mM (R q) (mM (R (p + 2)) (R (p + 2)))) (mM (R p) (mM (R (q + 2)) (R (q + 2))))) (sM (mM (R q) (mM (R (p + 2)) (R (p + 2)))) (mM (R p) (mM (R (q + 2)) (R (q + 2)))))) (sM (mM (R q) (mM (R (p + 2)) (R (p + 2)))) (mM (R p) (mM (R (q + 2)) (R (q + 2)))))) := by rw [s22]; exact va_up_self _ _ _
      have r22_2 : Q22 2 = mM (sM (mM (mM (R p) (mM (R (q + 2)) (R (q + 2)))) (mM (sM (mM (R q) (mM (R (p + 2)) (R (p + 2)))) (mM (R p) (mM (R (q + 2)) (R (q + 2))))) (sM (mM (R q) (mM (R (p + 2)) (R (p + 2)))) (mM (R p) (mM (R (q + 2)) (R (q + 2))))))) (sM (sM (sM (mM (sM (mM (mM (R (q + 1)) (R (p + 2))) (mM (R (p + 2)) (R (p + 2)))) (mM (mM (R (p + 1)) (R (q + 2))) (mM (R (q + 2)) (R (q + 2))))) (sM (mM (mM (R (q + 1)) (R (p + 2))) (mM (R (p + 2)) (R (p + 2)))) (mM (mM (R (p + 1)) (R (q + 2))) (mM (R (q + 2)) (R (q + 2)))))) (mM (mM (sM (mM (R q) (mM (R (p + 2)) (R (p + 2)))) (mM (R p) (mM (R (q + 2)) (R (q + 2))))) (sM (mM (R q) (mM (R (p + 2)) (R (p + 2)))) (mM (R p) (mM (R (q + 2)) (R (q + 2)))))) (sM (mM (R q) (mM (R (p + 2)) (R (p + 2)))) (mM (R p) (mM (R (q + 2)) (R (q + 2))))))) (mM (mM (R p) (mM (R (q + 2)) (R (q + 2)))) (mM (sM (mM (R q) (mM (R (p + 2)) (R (p + 2)))) (mM (R p) (mM (R (q + 2)) (R (q + 2))))) (sM (mM (R q) (mM (R (p + 2)) (R (p + 2)))) (mM (R p) (mM (R (q + 2)) (R (q + 2)))))))) (mM (mM (R p) (mM (R (q + 2)) (R (q + 2)))) (mM (sM (mM (R q) (mM (R (p + 2)) (R (p + 2)))) (mM (R p) (mM (R (q + 2)) (R (q + 2))))) (sM (mM (R q) (mM (R (p + 2)) (R (p + 2)))) (mM (R p) (mM (R (q + 2)) (R (q + 2))))))))) (sM (mM (mM (R (q + 1)) (R (p + 2))) (mM (R (p + 2)) (R (p + 2)))) (mM (mM (R (p + 1)) (R (q + 2))) (mM (R (q + 2)) (R (q + 2))))) := by rw [s22]; exact (va_up_ne _ _ (by decide)).trans r21
      have r22_o : Q22 o = sM (sM (sM (mM (sM (mM (mM (R (q + 1)) (R (p + 2))) (mM (R (p + 2)) (R (p + 2)))) (mM (mM (R (p + 1)) (R (q + 2))) (mM (R (q + 2)) (R (q + 2))))) (sM (mM (mM (R (q + 1)) (R (p + 2))) (mM (R (p + 2)) (R (p + 2)))) (mM (mM (R (p + 1)) (R (q + 2))) (mM (R (q + 2)) (R (q + 2)))))) (mM (mM (sM (mM (R q) (mM (R (p + 2)) (R (p + 2)))) (mM (R p) (mM (R (q + 2)) (R (q + 2))))) (sM (mM (R q) (mM (R (p + 2)) (R (p + 2)))) (mM (R p) (mM (R (q + 2)) (R (q + 2)))))) (sM (mM (R q) (mM (R (p + 2)) (R (p + 2)))) (mM (R p) (mM (R (q + 2)) (R (q + 2))))))) (mM (mM (R p) (mM (R (q + 2)) (R (q + 2)))) (mM (sM (mM (R q) (mM (R (p + 2)) (R (p + 2)))) (mM (R p) (mM (R (q + 2)) (R (q + 2))))) (sM (mM (R q) (mM (R (p + 2)) (R (p + 2)))) (mM (R p) (mM (R (q + 2)) (R (q + 2)))))))) (mM (mM (R p) (mM (R (q + 2)) (R (q + 2)))) (mM (sM (mM (R q) (mM (R (p + 2)) (R (p + 2)))) (mM (R p) (mM (R (q + 2)) (R (q + 2))))) (sM (mM (R q) (mM (R (p + 2)) (R (p + 2)))) (mM (R p) (mM (R (q + 2)) (R (q + 2))))))) := by rw [s22]; exact (va_up_ne _ _ (ne6 o0 (by decide))).trans r21_o
      have r22_o2 : Q22 (o + 2) = mM (mM (R (p + 2)) (R (q + 2))) (sM (mM (R q) (mM (R (p + 2)) (R (p + 2)))) (mM (R p) (mM (R (q + 2)) (R (q + 2))))) := by rw [s22]; exact (va_up_ne _ _ (ne6 o2 (by decide))).trans r21_o2
      have O22 : ∀ j, 6 ≤ j → j ≠ o → j ≠ o + 1 → j ≠ o + 2 → Q22 j = R j := fun j h1 h2 h3 h4 => by rw [s22]; exact (va_up_ne _ _ (ne6 h1 (by decide))).trans (O21 j h1 h2 h3 h4)
      refine ks_aload_n dX3_addPoints_294 rfl rfl ?_
      refine ks_getf (T := TX3) (kf := 0) kx_535 rfl in_X3 cl_X3 (by decide) C22.1 rfl dX3_addPoints_295 rfl ?_
      refine ks_iload_n dX3_addPoints_298 rfl rfl ?_
      refine ks_bipush (x := nI 9) dX3_addPoints_299 (by decide) rfl ?_
      refine ks_addN dX3_addPoints_301 rfl ?_
      refine ks_bipush (x := nI 18) dX3_addPoints_302 (by decide) rfl ?_
      refine ks_bipush (x := nI 36) dX3_addPoints_304 (by decide) rfl ?_
      refine ks_callV (n := 3) (M' := mX5_subtract) (c_cvs (d := d + 1) (o := o + 1) (x := 2) (y := 4) C22 ob (by decide) (by decide) (lt_of_eq9 r22_2 (mM_lt _ _)) (lt_of_eq9 r22 (mM_lt _ _))) C22.2.1.1 cl_X5 rfl kx_518 kx_519 kx_520 kx_5 kx_521 (by decide +kernel) rfl (by decide) (Nat.le_of_ble_eq_true rfl) rfl dX3_addPoints_306 rfl (fun z23 T23 y23 => ?_)
      obtain ⟨rfl, u23, C23⟩ := y23
      rw [r22_2, r22] at C23
      obtain ⟨Q23, s23⟩ : ∃ Q, Q = va_up Q22 (o + 1) (sM (mM (sM (mM (mM (R p) (mM (R (q + 2)) (R (q + 2)))) (mM (sM (mM (R q) (mM (R (p + 2)) (R (p + 2)))) (mM (R p) (mM (R (q + 2)) (R (q + 2))))) (sM (mM (R q) (mM (R (p + 2)) (R (p + 2)))) (mM (R p) (mM (R (q + 2)) (R (q + 2))))))) (sM (sM (sM (mM (sM (mM (mM (R (q + 1)) (R (p + 2))) (mM (R (p + 2)) (R (p + 2)))) (mM (mM (R (p + 1)) (R (q + 2))) (mM (R (q + 2)) (R (q + 2))))) (sM (mM (mM (R (q + 1)) (R (p + 2))) (mM (R (p + 2)) (R (p + 2)))) (mM (mM (R (p + 1)) (R (q + 2))) (mM (R (q + 2)) (R (q + 2)))))) (mM (mM (sM (mM (R q) (mM (R (p + 2)) (R (p + 2)))) (mM (R p) (mM (R (q + 2)) (R (q + 2))))) (sM (mM (R q) (mM (R (p + 2)) (R (p + 2)))) (mM (R p) (mM (R (q + 2)) (R (q + 2)))))) (sM (mM (R q) (mM (R (p + 2)) (R (p + 2)))) (mM (R p) (mM (R (q + 2)) (R (q + 2))))))) (mM (mM (R p) (mM (R (q + 2)) (R (q + 2)))) (mM (sM (mM (R q) (mM (R (p + 2)) (R (p + 2)))) (mM (R p) (mM (R (q + 2)) (R (q + 2))))) (sM (mM (R q) (mM (R (p + 2)) (R (p + 2)))) (mM (R p) (mM (R (q + 2)) (R (q + 2)))))))) (mM (mM (R p) (mM (R (q + 2)) (R (q + 2)))) (mM (sM (mM (R q) (mM (R (p + 2)) (R (p + 2)))) (mM (R p) (mM (R (q + 2)) (R (q + 2))))) (sM (mM (R q) (mM (R (p + 2)) (R (p + 2)))) (mM (R p) (mM (R (q + 2)) (R (q + 2))))))))) (sM (mM (mM (R (q + 1)) (R (p + 2))) (mM (R (p + 2)) (R (p + 2)))) (mM (mM (R (p + 1)) (R (q + 2))) (mM (R (q + 2)) (R (q + 2)))))) (mM (mM (mM (R (p + 1)) (R (q + 2))) (mM (R (q + 2)) (R (q + 2)))) (mM (mM (sM (mM (R q) (mM (R (p + 2)) (R (p + 2)))) (mM (R p) (mM (R (q + 2)) (R (q + 2))))) (sM (mM (R q) (mM (R (p + 2)) (R (p + 2)))) (mM (R p) (mM (R (q + 2)) (R (q + 2)))))) (sM (mM (R q) (mM (R (p + 2)) (R (p + 2)))) (mM (R p) (mM (R (q + 2)) (R (q + 2)))))))) := ⟨_, rfl⟩
      rw [← s23] at C23
      have r23 : Q23 (o + 1) = sM (mM (sM (mM (mM (R p) (mM (R (q + 2)) (R (q + 2)))) (mM (sM (mM (R q) (mM (R (p + 2)) (R (p + 2)))) (mM (R p) (mM (R (q + 2)) (R (q + 2))))) (sM (mM (R q) (mM (R (p + 2)) (R (p + 2)))) (mM (R p) (mM (R (q + 2)) (R (q + 2))))))) (sM (sM (sM (mM (sM (mM (mM (R (q + 1)) (R (p + 2))) (mM (R (p + 2)) (R (p + 2)))) (mM (mM (R (p + 1)) (R (q + 2))) (mM (R (q + 2)) (R (q + 2))))) (sM (mM (mM (R (q + 1)) (R (p + 2))) (mM (R (p + 2)) (R (p + 2)))) (mM (mM (R (p + 1)) (R (q + 2))) (mM (R (q + 2)) (R (q + 2)))))) (mM (mM (sM (mM (R q) (mM (R (p + 2)) (R (p + 2)))) (mM (R p) (mM (R (q + 2)) (R (q + 2))))) (sM (mM (R q) (mM (R (p + 2)) (R (p + 2)))) (mM (R p) (mM (R (q + 2)) (R (q + 2)))))) (sM (mM (R q) (mM (R (p + 2)) (R (p + 2)))) (mM (R p) (mM (R (q + 2)) (R (q + 2))))))) (mM (mM (R p) (mM (R (q + 2)) (R (q + 2)))) (mM (sM (mM (R q) (mM (R (p + 2)) (R (p + 2)))) (mM (R p) (mM (R (q + 2)) (R (q + 2))))) (sM (mM (R q) (mM (R (p + 2)) (R (p + 2)))) (mM (R p) (mM (R (q + 2)) (R (q + 2)))))))) (mM (mM (R p) (mM (R (q + 2)) (R (q + 2)))) (mM (sM (mM (R q) (mM (R (p + 2)) (R (p + 2)))) (mM (R p) (mM (R (q + 2)) (R (q + 2))))) (sM (mM (R q) (mM (R (p + 2)) (R (p + 2)))) (mM (R p) (mM (R (q + 2)) (R (q + 2))))))))) (sM (mM (mM (R (q + 1)) (R (p + 2))) (mM (R (p + 2)) (R (p + 2)))) (mM (mM (R (p + 1)) (R (q + 2))) (mM (R (q + 2)) (R (q + 2)))))) (mM (mM (mM (R (p + 1)) (R (q + 2))) (mM (R (q + 2)) (R (q + 2)))) (mM (mM (sM (mM (R q) (mM (R (p + 2)) (R (p + 2)))) (mM (R p) (mM (R (q + 2)) (R (q + 2))))) (sM (mM (R q) (mM (R (p + 2)) (R (p + 2)))) (mM (R p) (mM (R (q + 2)) (R (q + 2)))))) (sM (mM (R q) (mM (R (p + 2)) (R (p + 2)))) (mM (R p) (mM (R (q + 2)) (R (q + 2))))))) := by rw [s23]; exact va_up_self _ _ _
      have r23_o : Q23 o = sM (sM (sM (mM (sM (mM (mM (R (q + 1)) (R (p + 2))) (mM (R (p + 2)) (R (p + 2)))) (mM (mM (R (p + 1)) (R (q + 2))) (mM (R (q + 2)) (R (q + 2))))) (sM (mM (mM (R (q + 1)) (R (p + 2))) (mM (R (p + 2)) (R (p + 2)))) (mM (mM (R (p + 1)) (R (q + 2))) (mM (R (q + 2)) (R (q + 2)))))) (mM (mM (sM (mM (R q) (mM (R (p + 2)) (R (p + 2)))) (mM (R p) (mM (R (q + 2)) (R (q + 2))))) (sM (mM (R q) (mM (R (p + 2)) (R (p + 2)))) (mM (R p) (mM (R (q + 2)) (R (q + 2)))))) (sM (mM (R q) (mM (R (p + 2)) (R (p + 2)))) (mM (R p) (mM (R (q + 2)) (R (q + 2))))))) (mM (mM (R p) (mM (R (q + 2)) (R (q + 2)))) (mM (sM (mM (R q) (mM (R (p + 2)) (R (p + 2)))) (mM (R p) (mM (R (q + 2)) (R (q + 2))))) (sM (mM (R q) (mM (R (p + 2)) (R (p + 2)))) (mM (R p) (mM (R (q + 2)) (R (q + 2)))))))) (mM (mM (R p) (mM (R (q + 2)) (R (q + 2)))) (mM (sM (mM (R q) (mM (R (p + 2)) (R (p + 2)))) (mM (R p) (mM (R (q + 2)) (R (q + 2))))) (sM (mM (R q) (mM (R (p + 2)) (R (p + 2)))) (mM (R p) (mM (R (q + 2)) (R (q + 2))))))) := by rw [s23]; exact (va_up_ne _ _ n01).trans r22_o
      have r23_o2 : Q23 (o + 2) = mM (mM (R (p + 2)) (R (q + 2))) (sM (mM (R q) (mM (R (p + 2)) (R (p + 2)))) (mM (R p) (mM (R (q + 2)) (R (q + 2))))) := by rw [s23]; exact (va_up_ne _ _ (Ne.symm n12)).trans r22_o2
      have O23 : ∀ j, 6 ≤ j → j ≠ o → j ≠ o + 1 → j ≠ o + 2 → Q23 j = R j := fun j h1 h2 h3 h4 => by rw [s23]; exact (va_up_ne _ _ h3).trans (O22 j h1 h2 h3 h4)
      refine ks_iconst (x := nI 1) dX3_addPoints_309 (by decide) rfl ?_
      refine ks_zret rfl rfl dX3_addPoints_310 ?_
      refine ⟨((((((((((((((((((((((u1.trans u2).trans u3).trans u4).trans u5).trans u6).trans u7).trans u8).trans u9).trans u10).trans u11).trans u12).trans u13).trans u14).trans u15).trans u16).trans u17).trans u18).trans u19).trans u20).trans u21).trans u22).trans u23), Q23, C23, O23, ?_⟩
      rw [if_neg hz0, if_neg (fun h => h3 h.1)]
      exact ⟨rfl, r23_o, r23, r23_o2⟩
    · have h3 := of_decide_eq_true g2
      refine ks_aload_n dX3_addPoints_155 rfl rfl ?_
      refine ks_getf (T := TX3) (kf := 0) kx_535 rfl in_X3 cl_X3 (by decide) C10.1 rfl dX3_addPoints_156 rfl ?_
      refine ks_bipush (x := nI 45) dX3_addPoints_159 (by decide) rfl ?_
      refine ks_callV (n := 1) (M' := mX5_isZero) (c_fd_isZero (d := d + 1) (x := 5) C10.2.1 (by decide)) C10.2.1.1 cl_X5 rfl kx_526 kx_527 kx_528 kx_5 kx_529 (by decide +kernel) rfl (by decide) (Nat.le_of_ble_eq_true rfl) rfl dX3_addPoints_161 rfl (fun z9 T9 y9 => ?_)
      obtain ⟨rfl, hS9⟩ := y9
      obtain rfl := hS9.symm
      rw [r10]
      refine ks_if_eqZ (tgt := 169) dX3_addPoints_164 (by decide) rfl (fun g3 => ?_) (fun g3 => ?_)
      · have h5 := of_decide_eq_false g3
        refine ks_aload_n dX3_addPoints_169 rfl rfl ?_
        refine ks_iconst (x := nI 0) dX3_addPoints_170 (by decide) rfl ?_
        refine ks_iload_n dX3_addPoints_171 rfl rfl ?_
        refine ks_bipush (x := nI 18) dX3_addPoints_172 (by decide) rfl ?_
        refine ks_addN dX3_addPoints_174 rfl ?_
        refine ks_iload_n dX3_addPoints_175 rfl rfl ?_
        refine ks_bipush (x := nI 18) dX3_addPoints_176 (by decide) rfl ?_
        refine ks_addN dX3_addPoints_178 rfl ?_
        refine ks_callV (n := 3) (M' := mX3_multiply) (c_cvm (d := d + 1) (o := 0) (x := p + 2) (y := q + 2) C10 (by decide) pc qc (Nat.lt_trans (lt_of_eq9 r10_p2 hzp) pP_lt) (Nat.lt_trans (lt_of_eq9 r10_q2 hzq) pP_lt)) C10.1 cl_X3 rfl kx_502 kx_504 kxp_2 kx_4 kx_505 (by decide +kernel) rfl (by decide) (Nat.le_of_ble_eq_true rfl) rfl dX3_addPoints_179 rfl (fun z11 T11 y11 => ?_)
        obtain ⟨rfl, u11, C11⟩ := y11
        rw [r10_p2, r10_q2] at C11
        obtain ⟨Q11, s11⟩ : ∃ Q, Q = va_up Q10 0 (mM (R (p + 2)) (R (q + 2))) := ⟨_, rfl⟩
        rw [← s11] at C11
        have r11 : Q11 0 = mM (R (p + 2)) (R (q + 2)) := by rw [s11]; exact va_up_self _ _ _
        have r11_2 : Q11 2 = mM (R p) (mM (R (q + 2)) (R (q + 2))) := by rw [s11]; exact (va_up_ne _ _ (by decide)).trans r10_2
        have r11_3 : Q11 3 = sM (mM (R q) (mM (R (p + 2)) (R (p + 2)))) (mM (R p) (mM (R (q + 2)) (R (q + 2)))) := by rw [s11]; exact (va_up_ne _ _ (by decide)).trans r10_3
        have r11_4 : Q11 4 = mM (mM (R (p + 1)) (R (q + 2))) (mM (R (q + 2)) (R (q + 2))) := by rw [s11]; exact (va_up_ne _ _ (by decide)).trans r10_4
        have r11_5 : Q11 5 = sM (mM (mM (R (q + 1)) (R (p + 2))) (mM (R (p + 2)) (R (p + 2)))) (mM (mM (R (p + 1)) (R (q + 2))) (mM (R (q + 2)) (R (q + 2)))) := by rw [s11]; exact (va_up_ne _ _ (by decide)).trans r10
        have O11 : ∀ j, 6 ≤ j → j ≠ o → j ≠ o + 1 → j ≠ o + 2 → Q11 j = R j := fun j h1 h2 h3 h4 => by rw [s11]; exact (va_up_ne _ _ (ne6 h1 (by decide))).trans (O10 j h1 h2 h3 h4)
        refine ks_aload_n dX3_addPoints_182 rfl rfl ?_
        refine ks_iload_n dX3_addPoints_183 rfl rfl ?_
        refine ks_bipush (x := nI 18) dX3_addPoints_184 (by decide) rfl ?_
        refine ks_addN dX3_addPoints_186 rfl ?_
        refine ks_iconst (x := nI 0) dX3_addPoints_187 (by decide) rfl ?_
        refine ks_bipush (x := nI 27) dX3_addPoints_188 (by decide) rfl ?_
        refine ks_callV (n := 3) (M' := mX3_multiply) (c_cvm (d := d + 1) (o := o + 2) (x := 0) (y := 3) C11 oc (by decide) (by decide) (Nat.lt_trans (lt_of_eq9 r11 (mM_lt _ _)) pP_lt) (Nat.lt_trans (lt_of_eq9 r11_3 (sM_lt _ _)) pP_lt)) C11.1 cl_X3 rfl kx_502 kx_504 kxp_2 kx_4 kx_505 (by decide +kernel) rfl (by decide) (Nat.le_of_ble_eq_true rfl) rfl dX3_addPoints_190 rfl (fun z12 T12 y12 => ?_)
        obtain ⟨rfl, u12, C12⟩ := y12
        rw [r11, r11_3] at C12
        obtain ⟨Q12, s12⟩ : ∃ Q, Q = va_up Q11 (o + 2) (mM (mM (R (p + 2)) (R (q + 2))) (sM (mM (R q) (mM (R (p + 2)) (R (p + 2)))) (mM (R p) (mM (R (q + 2)) (R (q + 2)))))) := ⟨_, rfl⟩
        rw [← s12] at C12
        have r12 : Q12 (o + 2) = mM (mM (R (p + 2)) (R (q + 2))) (sM (mM (R q) (mM (R (p + 2)) (R (p + 2)))) (mM (R p) (mM (R (q + 2)) (R (q + 2))))) := by rw [s12]; exact va_up_self _ _ _
        have r12_2 : Q12 2 = mM (R p) (mM (R (q + 2)) (R (q + 2))) := by rw [s12]; exact (va_up_ne _ _ (Ne.symm (ne6 o2 (by decide)))).trans r11_2
        have r12_3 : Q12 3 = sM (mM (R q) (mM (R (p + 2)) (R (p + 2)))) (mM (R p) (mM (R (q + 2)) (R (q + 2)))) := by rw [s12]; exact (va_up_ne _ _ (Ne.symm (ne6 o2 (by decide)))).trans r11_3
        have r12_4 : Q12 4 = mM (mM (R (p + 1)) (R (q + 2))) (mM (R (q + 2)) (R (q + 2))) := by rw [s12]; exact (va_up_ne _ _ (Ne.symm (ne6 o2 (by decide)))).trans r11_4
        have r12_5 : Q12 5 = sM (mM (mM (R (q + 1)) (R (p + 2))) (mM (R (p + 2)) (R (p + 2)))) (mM (mM (R (p + 1)) (R (q + 2))) (mM (R (q + 2)) (R (q + 2)))) := by rw [s12]; exact (va_up_ne _ _ (Ne.symm (ne6 o2 (by decide)))).trans r11_5
        have O12 : ∀ j, 6 ≤ j → j ≠ o → j ≠ o + 1 → j ≠ o + 2 → Q12 j = R j := fun j h1 h2 h3 h4 => by rw [s12]; exact (va_up_ne _ _ h4).trans (O11 j h1 h2 h3 h4)
        refine ks_aload_n dX3_addPoints_193 rfl rfl ?_
        refine ks_iconst (x := nI 0) dX3_addPoints_194 (by decide) rfl ?_
        refine ks_bipush (x := nI 27) dX3_addPoints_195 (by decide) rfl ?_
        refine ks_bipush (x := nI 27) dX3_addPoints_197 (by decide) rfl ?_
        refine ks_callV (n := 3) (M' := mX3_multiply) (c_cvm (d := d + 1) (o := 0) (x := 3) (y := 3) C12 (by decide) (by decide) (by decide) (Nat.lt_trans (lt_of_eq9 r12_3 (sM_lt _ _)) pP_lt) (Nat.lt_trans (lt_of_eq9 r12_3 (sM_lt _ _)) pP_lt)) C12.1 cl_X3 rfl kx_502 kx_504 kxp_2 kx_4 kx_505 (by decide +kernel) rfl (by decide) (Nat.le_of_ble_eq_true rfl) rfl dX3_addPoints_199 rfl (fun z13 T13 y13 => ?_)
        obtain ⟨rfl, u13, C13⟩ := y13
        rw [r12_3] at C13
        obtain ⟨Q13, s13⟩ : ∃ Q, Q = va_up Q12 0 (mM (sM (mM (R q) (mM (R (p + 2)) (R (p + 2)))) (mM (R p) (mM (R (q + 2)) (R (q + 2))))) (sM (mM (R q) (mM (R (p + 2)) (R (p + 2)))) (mM (R p) (mM (R (q + 2)) (R (q + 2)))))) := ⟨_, rfl⟩
        rw [← s13] at C13
        have r13 : Q13 0 = mM (sM (mM (R q) (mM (R (p + 2)) (R (p + 2)))) (mM (R p) (mM (R (q + 2)) (R (q + 2))))) (sM (mM (R q) (mM (R (p + 2)) (R (p + 2)))) (mM (R p) (mM (R (q + 2)) (R (q + 2))))) := by rw [s13]; exact va_up_self _ _ _
        have r13_2 : Q13 2 = mM (R p) (mM (R (q + 2)) (R (q + 2))) := by rw [s13]; exact (va_up_ne _ _ (by decide)).trans r12_2
        have r13_3 : Q13 3 = sM (mM (R q) (mM (R (p + 2)) (R (p + 2)))) (mM (R p) (mM (R (q + 2)) (R (q + 2)))) := by rw [s13]; exact (va_up_ne _ _ (by decide)).trans r12_3
        have r13_4 : Q13 4 = mM (mM (R (p + 1)) (R (q + 2))) (mM (R (q + 2)) (R (q + 2))) := by rw [s13]; exact (va_up_ne _ _ (by decide)).trans r12_4
        have r13_5 : Q13 5 = sM (mM (mM (R (q + 1)) (R (p + 2))) (mM (R (p + 2)) (R (p + 2)))) (mM (mM (R (p + 1)) (R (q + 2))) (mM (R (q + 2)) (R (q + 2)))) := by rw [s13]; exact (va_up_ne _ _ (by decide)).trans r12_5
        have r13_o2 : Q13 (o + 2) = mM (mM (R (p + 2)) (R (q + 2))) (sM (mM (R q) (mM (R (p + 2)) (R (p + 2)))) (mM (R p) (mM (R (q + 2)) (R (q + 2))))) := by rw [s13]; exact (va_up_ne _ _ (ne6 o2 (by decide))).trans r12
        have O13 : ∀ j, 6 ≤ j → j ≠ o → j ≠ o + 1 → j ≠ o + 2 → Q13 j = R j := fun j h1 h2 h3 h4 => by rw [s13]; exact (va_up_ne _ _ (ne6 h1 (by decide))).trans (O12 j h1 h2 h3 h4)
        refine ks_aload_n dX3_addPoints_202 rfl rfl ?_
        refine ks_bipush (x := nI 9) dX3_addPoints_203 (by decide) rfl ?_
        refine ks_iconst (x := nI 0) dX3_addPoints_205 (by decide) rfl ?_
        refine ks_bipush (x := nI 27) dX3_addPoints_206 (by decide) rfl ?_
        refine ks_callV (n := 3) (M' := mX3_multiply) (c_cvm (d := d + 1) (o := 1) (x := 0) (y := 3) C13 (by decide) (by decide) (by decide) (Nat.lt_trans (lt_of_eq9 r13 (mM_lt _ _)) pP_lt) (Nat.lt_trans (lt_of_eq9 r13_3 (sM_lt _ _)) pP_lt)) C13.1 cl_X3 rfl kx_502 kx_504 kxp_2 kx_4 kx_505 (by decide +kernel) rfl (by decide) (Nat.le_of_ble_eq_true rfl) rfl dX3_addPoints_208 rfl (fun z14 T14 y14 => ?_)
        obtain ⟨rfl, u14, C14⟩ := y14
        rw [r13, r13_3] at C14
        obtain ⟨Q14, s14⟩ : ∃ Q, Q = va_up Q13 1 (mM (mM (sM (mM (R q) (mM (R (p + 2)) (R (p + 2)))) (mM (R p) (mM (R (q + 2)) (R (q + 2))))) (sM (mM (R q) (mM (R (p + 2)) (R (p + 2)))) (mM (R p) (mM (R (q + 2)) (R (q + 2)))))) (sM (mM (R q) (mM (R (p + 2)) (R (p + 2)))) (mM (R p) (mM (R (q + 2)) (R (q + 2)))))) := ⟨_, rfl⟩
        rw [← s14] at C14
        have r14 : Q14 1 = mM (mM (sM (mM (R q) (mM (R (p + 2)) (R (p + 2)))) (mM (R p) (mM (R (q + 2)) (R (q + 2))))) (sM (mM (R q) (mM (R (p + 2)) (R (p + 2)))) (mM (R p) (mM (R (q + 2)) (R (q + 2)))))) (sM (mM (R q) (mM (R (p + 2)) (R (p + 2)))) (mM (R p) (mM (R (q + 2)) (R (q + 2))))) := by rw [s14]; exact va_up_self _ _ _
        have r14_0 : Q14 0 = mM (sM (mM (R q) (mM (R (p + 2)) (R (p + 2)))) (mM (R p) (mM (R (q + 2)) (R (q + 2))))) (sM (mM (R q) (mM (R (p + 2)) (R (p + 2)))) (mM (R p) (mM (R (q + 2)) (R (q + 2))))) := by rw [s14]; exact (va_up_ne _ _ (by decide)).trans r13
        have r14_2 : Q14 2 = mM (R p) (mM (R (q + 2)) (R (q + 2))) := by rw [s14]; exact (va_up_ne _ _ (by decide)).trans r13_2
        have r14_4 : Q14 4 = mM (mM (R (p + 1)) (R (q + 2))) (mM (R (q + 2)) (R (q + 2))) := by rw [s14]; exact (va_up_ne _ _ (by decide)).trans r13_4
        have r14_5 : Q14 5 = sM (mM (mM (R (q + 1)) (R (p + 2))) (mM (R (p + 2)) (R (p + 2)))) (mM (mM (R (p + 1)) (R (q + 2))) (mM (R (q + 2)) (R (q + 2)))) := by rw [s14]; exact (va_up_ne _ _ (by decide)).trans r13_5
        have r14_o2 : Q14 (o + 2) = mM (mM (R (p + 2)) (R (q + 2))) (sM (mM (R q) (mM (R (p + 2)) (R (p + 2)))) (mM (R p) (mM (R (q + 2)) (R (q + 2))))) := by rw [s14]; exact (va_up_ne _ _ (ne6 o2 (by decide))).trans r13_o2
        have O14 : ∀ j, 6 ≤ j → j ≠ o → j ≠ o + 1 → j ≠ o + 2 → Q14 j = R j := fun j h1 h2 h3 h4 => by rw [s14]; exact (va_up_ne _ _ (ne6 h1 (by decide))).trans (O13 j h1 h2 h3 h4)
        refine ks_aload_n dX3_addPoints_211 rfl rfl ?_
        refine ks_bipush (x := nI 18) dX3_addPoints_212 (by decide) rfl ?_
        refine ks_bipush (x := nI 18) dX3_addPoints_214 (by decide) rfl ?_
        refine ks_iconst (x := nI 0) dX3_addPoints_216 (by decide) rfl ?_
        refine ks_callV (n := 3) (M' := mX3_multiply) (c_cvm (d := d + 1) (o := 2) (x := 2) (y := 0) C14 (by decide) (by decide) (by decide) (Nat.lt_trans (lt_of_eq9 r14_2 (mM_lt _ _)) pP_lt) (Nat.lt_trans (lt_of_eq9 r14_0 (mM_lt _ _)) pP_lt)) C14.1 cl_X3 rfl kx_502 kx_504 kxp_2 kx_4 kx_505 (by decide +kernel) rfl (by decide) (Nat.le_of_ble_eq_true rfl) rfl dX3_addPoints_217 rfl (fun z15 T15 y15 => ?_)
        obtain ⟨rfl, u15, C15⟩ := y15
        rw [r14_2, r14_0] at C15
        obtain ⟨Q15, s15⟩ : ∃ Q, Q = va_up Q14 2 (mM (mM (R p) (mM (R (q + 2)) (R (q + 2)))) (mM (sM (mM (R q) (mM (R (p + 2)) (R (p + 2)))) (mM (R p) (mM (R (q + 2)) (R (q + 2))))) (sM (mM (R q) (mM (R (p + 2)) (R (p + 2)))) (mM (R p) (mM (R (q + 2)) (R (q + 2))))))) := ⟨_, rfl⟩
        rw [← s15] at C15
        have r15 : Q15 2 = mM (mM (R p) (mM (R (q + 2)) (R (q + 2)))) (mM (sM (mM (R q) (mM (R (p + 2)) (R (p + 2)))) (mM (R p) (mM (R (q + 2)) (R (q + 2))))) (sM (mM (R q) (mM (R (p + 2)) (R (p + 2)))) (mM (R p) (mM (R (q + 2)) (R (q + 2)))))) := by rw [s15]; exact va_up_self _ _ _
        have r15_1 : Q15 1 = mM (mM (sM (mM (R q) (mM (R (p + 2)) (R (p + 2)))) (mM (R p) (mM (R (q + 2)) (R (q + 2))))) (sM (mM (R q) (mM (R (p + 2)) (R (p + 2)))) (mM (R p) (mM (R (q + 2)) (R (q + 2)))))) (sM (mM (R q) (mM (R (p + 2)) (R (p + 2)))) (mM (R p) (mM (R (q + 2)) (R (q + 2))))) := by rw [s15]; exact (va_up_ne _ _ (by decide)).trans r14
        have r15_4 : Q15 4 = mM (mM (R (p + 1)) (R (q + 2))) (mM (R (q + 2)) (R (q + 2))) := by rw [s15]; exact (va_up_ne _ _ (by decide)).trans r14_4
        have r15_5 : Q15 5 = sM (mM (mM (R (q + 1)) (R (p + 2))) (mM (R (p + 2)) (R (p + 2)))) (mM (mM (R (p + 1)) (R (q + 2))) (mM (R (q + 2)) (R (q + 2)))) := by rw [s15]; exact (va_up_ne _ _ (by decide)).trans r14_5
        have r15_o2 : Q15 (o + 2) = mM (mM (R (p + 2)) (R (q + 2))) (sM (mM (R q) (mM (R (p + 2)) (R (p + 2)))) (mM (R p) (mM (R (q + 2)) (R (q + 2))))) := by rw [s15]; exact (va_up_ne _ _ (ne6 o2 (by decide))).trans r14_o2
        have O15 : ∀ j, 6 ≤ j → j ≠ o → j ≠ o + 1 → j ≠ o + 2 → Q15 j = R j := fun j h1 h2 h3 h4 => by rw [s15]; exact (va_up_ne _ _ (ne6 h1 (by decide))).trans (O14 j h1 h2 h3 h4)
        refine ks_aload_n dX3_addPoints_220 rfl rfl ?_
        refine ks_iconst (x := nI 0) dX3_addPoints_221 (by decide) rfl ?_
        refine ks_bipush (x := nI 45) dX3_addPoints_222 (by decide) rfl ?_
        refine ks_bipush (x := nI 45) dX3_addPoints_224 (by decide) rfl ?_
        refine ks_callV (n := 3) (M' := mX3_multiply) (c_cvm (d := d + 1) (o := 0) (x := 5) (y := 5) C15 (by decide) (by decide) (by decide) (Nat.lt_trans (lt_of_eq9 r15_5 (sM_lt _ _)) pP_lt) (Nat.lt_trans (lt_of_eq9 r15_5 (sM_lt _ _)) pP_lt)) C15.1 cl_X3 rfl kx_502 kx_504 kxp_2 kx_4 kx_505 (by decide +kernel) rfl (by decide) (Nat.le_of_ble_eq_true rfl) rfl dX3_addPoints_226 rfl (fun z16 T16 y16 => ?_)
        obtain ⟨rfl, u16, C16⟩ := y16
        rw [r15_5] at C16
        obtain ⟨Q16, s16⟩ : ∃ Q, Q = va_up Q15 0 (mM (sM (mM (mM (R (q + 1)) (R (p + 2))) (mM (R (p + 2)) (R (p + 2)))) (mM (mM (R (p + 1)) (R (q + 2))) (mM (R (q + 2)) (R (q + 2))))) (sM (mM (mM (R (q + 1)) (R (p + 2))) (mM (R (p + 2)) (R (p + 2)))) (mM (mM (R (p + 1)) (R (q + 2))) (mM (R (q + 2)) (R (q + 2)))))) := ⟨_, rfl⟩
        rw [← s16] at C16
        have r16 : Q16 0 = mM (sM (mM (mM (R (q + 1)) (R (p + 2))) (mM (R (p + 2)) (R (p + 2)))) (mM (mM (R (p + 1)) (R (q + 2))) (mM (R (q + 2)) (R (q + 2))))) (sM (mM (mM (R (q + 1)) (R (p + 2))) (mM (R (p + 2)) (R (p + 2)))) (mM (mM (R (p + 1)) (R (q + 2))) (mM (R (q + 2)) (R (q + 2))))) := by rw [s16]; exact va_up_self _ _ _
        have r16_1 : Q16 1 = mM (mM (sM (mM (R q) (mM (R (p + 2)) (R (p + 2)))) (mM (R p) (mM (R (q + 2)) (R (q + 2))))) (sM (mM (R q) (mM (R (p + 2)) (R (p + 2)))) (mM (R p) (mM (R (q + 2)) (R (q + 2)))))) (sM (mM (R q) (mM (R (p + 2)) (R (p + 2)))) (mM (R p) (mM (R (q + 2)) (R (q + 2))))) := by rw [s16]; exact (va_up_ne _ _ (by decide)).trans r15_1
        have r16_2 : Q16 2 = mM (mM (R p) (mM (R (q + 2)) (R (q + 2)))) (mM (sM (mM (R q) (mM (R (p + 2)) (R (p + 2)))) (mM (R p) (mM (R (q + 2)) (R (q + 2))))) (sM (mM (R q) (mM (R (p + 2)) (R (p + 2)))) (mM (R p) (mM (R (q + 2)) (R (q + 2)))))) := by rw [s16]; exact (va_up_ne _ _ (by decide)).trans r15
        have r16_4 : Q16 4 = mM (mM (R (p + 1)) (R (q + 2))) (mM (R (q + 2)) (R (q + 2))) := by rw [s16]; exact (va_up_ne _ _ (by decide)).trans r15_4
        have r16_5 : Q16 5 = sM (mM (mM (R (q + 1)) (R (p + 2))) (mM (R (p + 2)) (R (p + 2)))) (mM (mM (R (p + 1)) (R (q + 2))) (mM (R (q + 2)) (R (q + 2)))) := by rw [s16]; exact (va_up_ne _ _ (by decide)).trans r15_5
        have r16_o2 : Q16 (o + 2) = mM (mM (R (p + 2)) (R (q + 2))) (sM (mM (R q) (mM (R (p + 2)) (R (p + 2)))) (mM (R p) (mM (R (q + 2)) (R (q + 2))))) := by rw [s16]; exact (va_up_ne _ _ (ne6 o2 (by decide))).trans r15_o2
        have O16 : ∀ j, 6 ≤ j → j ≠ o → j ≠ o + 1 → j ≠ o + 2 → Q16 j = R j := fun j h1 h2 h3 h4 => by rw [s16]; exact (va_up_ne _ _ (ne6 h1 (by decide))).trans (O15 j h1 h2 h3 h4)
        refine ks_aload_n dX3_addPoints_229 rfl rfl ?_
        refine ks_getf (T := TX3) (kf := 0) kx_535 rfl in_X3 cl_X3 (by decide) C16.1 rfl dX3_addPoints_230 rfl ?_
        refine ks_iconst (x := nI 0) dX3_addPoints_233 (by decide) rfl ?_
        refine ks_iconst (x := nI 0) dX3_addPoints_234 (by decide) rfl ?_
        refine ks_bipush (x := nI 9) dX3_addPoints_235 (by decide) rfl ?_
        refine ks_callV (n := 3) (M' := mX5_subtract) (c_cvs (d := d + 1) (o := 0) (x := 0) (y := 1) C16 (by decide) (by decide) (by decide) (lt_of_eq9 r16 (mM_lt _ _)) (lt_of_eq9 r16_1 (mM_lt _ _))) C16.2.1.1 cl_X5 rfl kx_518 kx_519 kx_520 kx_5 kx_521 (by decide +kernel) rfl (by decide) (Nat.le_of_ble_eq_true rfl) rfl dX3_addPoints_237 rfl (fun z17 T17 y17 => ?_)
        obtain ⟨rfl, u17, C17⟩ := y17
        rw [r16, r16_1] at C17
        obtain ⟨Q17, s17⟩ : ∃ Q, Q = va_up Q16 0 (sM (mM (sM (mM (mM (R (q + 1)) (R (p + 2))) (mM (R (p + 2)) (R (p + 2)))) (mM (mM (R (p + 1)) (R (q + 2))) (mM (R (q + 2)) (R (q + 2))))) (sM (mM (mM (R (q + 1)) (R (p + 2))) (mM (R (p + 2)) (R (p + 2)))) (mM (mM (R (p + 1)) (R (q + 2))) (mM (R (q + 2)) (R (q + 2)))))) (mM (mM (sM (mM (R q) (mM (R (p + 2)) (R (p + 2)))) (mM (R p) (mM (R (q + 2)) (R (q + 2))))) (sM (mM (R q) (mM (R (p + 2)) (R (p + 2)))) (mM (R p) (mM (R (q + 2)) (R (q + 2)))))) (sM (mM (R q) (mM (R (p + 2)) (R (p + 2)))) (mM (R p) (mM (R (q + 2)) (R (q + 2))))))) := ⟨_, rfl⟩
        rw [← s17] at C17
        have r17 : Q17 0 = sM (mM (sM (mM (mM (R (q + 1)) (R (p + 2))) (mM (R (p + 2)) (R (p + 2)))) (mM (mM (R (p + 1)) (R (q + 2))) (mM (R (q + 2)) (R (q + 2))))) (sM (mM (mM (R (q + 1)) (R (p + 2))) (mM (R (p + 2)) (R (p + 2)))) (mM (mM (R (p + 1)) (R (q + 2))) (mM (R (q + 2)) (R (q + 2)))))) (mM (mM (sM (mM (R q) (mM (R (p + 2)) (R (p + 2)))) (mM (R p) (mM (R (q + 2)) (R (q + 2))))) (sM (mM (R q) (mM (R (p + 2)) (R (p + 2)))) (mM (R p) (mM (R (q + 2)) (R (q + 2)))))) (sM (mM (R q) (mM (R (p + 2)) (R (p + 2)))) (mM (R p) (mM (R (q + 2)) (R (q + 2)))))) := by rw [s17]; exact va_up_self _ _ _
        have r17_1 : Q17 1 = mM (mM (sM (mM (R q) (mM (R (p + 2)) (R (p + 2)))) (mM (R p) (mM (R (q + 2)) (R (q + 2))))) (sM (mM (R q) (mM (R (p + 2)) (R (p + 2)))) (mM (R p) (mM (R (q + 2)) (R (q + 2)))))) (sM (mM (R q) (mM (R (p + 2)) (R (p + 2)))) (mM (R p) (mM (R (q + 2)) (R (q + 2))))) := by rw [s17]; exact (va_up_ne _ _ (by decide)).trans r16_1
        have r17_2 : Q17 2 = mM (mM (R p) (mM (R (q + 2)) (R (q + 2)))) (mM (sM (mM (R q) (mM (R (p + 2)) (R (p + 2)))) (mM (R p) (mM (R (q + 2)) (R (q + 2))))) (sM (mM (R q) (mM (R (p + 2)) (R (p + 2)))) (mM (R p) (mM (R (q + 2)) (R (q + 2)))))) := by rw [s17]; exact (va_up_ne _ _ (by decide)).trans r16_2
        have r17_4 : Q17 4 = mM (mM (R (p + 1)) (R (q + 2))) (mM (R (q + 2)) (R (q + 2))) := by rw [s17]; exact (va_up_ne _ _ (by decide)).trans r16_4
        have r17_5 : Q17 5 = sM (mM (mM (R (q + 1)) (R (p + 2))) (mM (R (p + 2)) (R (p + 2)))) (mM (mM (R (p + 1)) (R (q + 2))) (mM (R (q + 2)) (R (q + 2)))) := by rw [s17]; exact (va_up_ne _ _ (by decide)).trans r16_5
        have r17_o2 : Q17 (o + 2) = mM (mM (R (p + 2)) (R (q + 2))) (sM (mM (R q) (mM (R (p + 2)) (R (p + 2)))) (mM (R p) (mM (R (q + 2)) (R (q + 2))))) := by rw [s17]; exact (va_up_ne _ _ (ne6 o2 (by decide))).trans r16_o2
        have O17 : ∀ j, 6 ≤ j → j ≠ o → j ≠ o + 1 → j ≠ o + 2 → Q17 j = R j := fun j h1 h2 h3 h4 => by rw [s17]; exact (va_up_ne _ _ (ne6 h1 (by decide))).trans (O16 j h1 h2 h3 h4)
        refine ks_aload_n dX3_addPoints_240 rfl rfl ?_
        refine ks_getf (T := TX3) (kf := 0) kx_535 rfl in_X3 cl_X3 (by decide) C17.1 rfl dX3_addPoints_241 rfl ?_
        refine ks_iconst (x := nI 0) dX3_addPoints_244 (by decide) rfl ?_
        refine ks_iconst (x := nI 0) dX3_addPoints_245 (by decide) rfl ?_
        refine ks_bipush (x := nI 18) dX3_addPoints_246 (by decide) rfl ?_
        refine ks_callV (n := 3) (M' := mX5_subtract) (c_cvs (d := d + 1) (o := 0) (x := 0) (y := 2) C17 (by decide) (by decide) (by decide) (lt_of_eq9 r17 (sM_lt _ _)) (lt_of_eq9 r17_2 (mM_lt _ _))) C17.2.1.1 cl_X5 rfl kx_518 kx_519 kx_520 kx_5 kx_521 (by decide +kernel) rfl (by decide) (Nat.le_of_ble_eq_true rfl) rfl dX3_addPoints_248 rfl (fun z18 T18 y18 => ?_)
        obtain ⟨rfl, u18, C18⟩ := y18
        rw [r17, r17_2] at C18
        obtain ⟨Q18, s18⟩ : ∃ Q, Q = va_up Q17 0 (sM (sM (mM (sM (mM (mM (R (q + 1)) (R (p + 2))) (mM (R (p + 2)) (R (p + 2)))) (mM (mM (R (p + 1)) (R (q + 2))) (mM (R (q + 2)) (R (q + 2))))) (sM (mM (mM (R (q + 1)) (R (p + 2))) (mM (R (p + 2)) (R (p + 2)))) (mM (mM (R (p + 1)) (R (q + 2))) (mM (R (q + 2)) (R (q + 2)))))) (mM (mM (sM (mM (R q) (mM (R (p + 2)) (R (p + 2)))) (mM (R p) (mM (R (q + 2)) (R (q + 2))))) (sM (mM (R q) (mM (R (p + 2)) (R (p + 2)))) (mM (R p) (mM (R (q + 2)) (R (q + 2)))))) (sM (mM (R q) (mM (R (p + 2)) (R (p + 2)))) (mM (R p) (mM (R (q + 2)) (R (q + 2))))))) (mM (mM (R p) (mM (R (q + 2)) (R (q + 2)))) (mM (sM (mM (R q) (mM (R (p + 2)) (R (p + 2)))) (mM (R p) (mM (R (q + 2)) (R (q + 2))))) (sM (mM (R q) (mM (R (p + 2)) (R (p + 2)))) (mM (R p) (mM (R (q + 2)) (R (q + 2)))))))) := ⟨_, rfl⟩
        rw [← s18] at C18
        have r18 : Q18 0 = sM (sM (mM (sM (mM (mM (R (q + 1)) (R (p + 2))) (mM (R (p + 2)) (R (p + 2)))) (mM (mM (R (p + 1)) (R (q + 2))) (mM (R (q + 2)) (R (q + 2))))) (sM (mM (mM (R (q + 1)) (R (p + 2))) (mM (R (p + 2)) (R (p + 2)))) (mM (mM (R (p + 1)) (R (q + 2))) (mM (R (q + 2)) (R (q + 2)))))) (mM (mM (sM (mM (R q) (mM (R (p + 2)) (R (p + 2)))) (mM (R p) (mM (R (q + 2)) (R (q + 2))))) (sM (mM (R q) (mM (R (p + 2)) (R (p + 2)))) (mM (R p) (mM (R (q + 2)) (R (q + 2)))))) (sM (mM (R q) (mM (R (p + 2)) (R (p + 2)))) (mM (R p) (mM (R (q + 2)) (R (q + 2))))))) (mM (mM (R p) (mM (R (q + 2)) (R (q + 2)))) (mM (sM (mM (R q) (mM (R (p + 2)) (R (p + 2)))) (mM (R p) (mM (R (q + 2)) (R (q + 2))))) (sM (mM (R q) (mM (R (p + 2)) (R (p + 2)))) (mM (R p) (mM (R (q + 2)) (R (q + 2))))))) := by rw [s18]; exact va_up_self _ _ _
        have r18_1 : Q18 1 = mM (mM (sM (mM (R q) (mM (R (p + 2)) (R (p + 2)))) (mM (R p) (mM (R (q + 2)) (R (q + 2))))) (sM (mM (R q) (mM (R (p + 2)) (R (p + 2)))) (mM (R p) (mM (R (q + 2)) (R (q + 2)))))) (sM (mM (R q) (mM (R (p + 2)) (R (p + 2)))) (mM (R p) (mM (R (q + 2)) (R (q + 2))))) := by rw [s18]; exact (va_up_ne _ _ (by decide)).trans r17_1
        have r18_2 : Q18 2 = mM (mM (R p) (mM (R (q + 2)) (R (q + 2)))) (mM (sM (mM (R q) (mM (R (p + 2)) (R (p + 2)))) (mM (R p) (mM (R (q + 2)) (R (q + 2))))) (sM (mM (R q) (mM (R (p + 2)) (R (p + 2)))) (mM (R p) (mM (R (q + 2)) (R (q + 2)))))) := by rw [s18]; exact (va_up_ne _ _ (by decide)).trans r17_2
        have r18_4 : Q18 4 = mM (mM (R (p + 1)) (R (q + 2))) (mM (R (q + 2)) (R (q + 2))) := by rw [s18]; exact (va_up_ne _ _ (by decide)).trans r17_4
        have r18_5 : Q18 5 = sM (mM (mM (R (q + 1)) (R (p + 2))) (mM (R (p + 2)) (R (p + 2)))) (mM (mM (R (p + 1)) (R (q + 2))) (mM (R (q + 2)) (R (q + 2)))) := by rw [s18]; exact (va_up_ne _ _ (by decide)).trans r17_5
        have r18_o2 : Q18 (o + 2) = mM (mM (R (p + 2)) (R (q + 2))) (sM (mM (R q) (mM (R (p + 2)) (R (p + 2)))) (mM (R p) (mM (R (q + 2)) (R (q + 2))))) := by rw [s18]; exact (va_up_ne _ _ (ne6 o2 (by decide))).trans r17_o2
        have O18 : ∀ j, 6 ≤ j → j ≠ o → j ≠ o + 1 → j ≠ o + 2 → Q18 j = R j := fun j h1 h2 h3 h4 => by rw [s18]; exact (va_up_ne _ _ (ne6 h1 (by decide))).trans (O17 j h1 h2 h3 h4)
        refine ks_aload_n dX3_addPoints_251 rfl rfl ?_
        refine ks_getf (T := TX3) (kf := 0) kx_535 rfl in_X3 cl_X3 (by decide) C18.1 rfl dX3_addPoints_252 rfl ?_
        refine ks_iload_n dX3_addPoints_255 rfl rfl ?_
        refine ks_iconst (x := nI 0) dX3_addPoints_256 (by decide) rfl ?_
        refine ks_bipush (x := nI 18) dX3_addPoints_257 (by decide) rfl ?_
        refine ks_callV (n := 3) (M' := mX5_subtract) (c_cvs (d := d + 1) (o := o) (x := 0) (y := 2) C18 oa (by decide) (by decide) (lt_of_eq9 r18 (sM_lt _ _)) (lt_of_eq9 r18_2 (mM_lt _ _))) C18.2.1.1 cl_X5 rfl kx_518 kx_519 kx_520 kx_5 kx_521 (by decide +kernel) rfl (by decide) (Nat.le_of_ble_eq_true rfl) rfl dX3_addPoints_259 rfl (fun z19 T19 y19 => ?_)
        obtain ⟨rfl, u19, C19⟩ := y19
        rw [r18, r18_2] at C19
        obtain ⟨Q19, s19⟩ : ∃ Q, Q = va_up Q18 o (sM (sM (sM (mM (sM (mM (mM (R (q + 1)) (R (p + 2))) (mM (R (p + 2)) (R (p + 2)))) (mM (mM (R (p + 1)) (R (q + 2))) (mM (R (q + 2)) (R (q + 2))))) (sM (mM (mM (R (q + 1)) (R (p + 2))) (mM (R (p + 2)) (R (p + 2)))) (mM (mM (R (p + 1)) (R (q + 2))) (mM (R (q + 2)) (R (q + 2)))))) (mM (mM (sM (mM (R q) (mM (R (p + 2)) (R (p + 2)))) (mM (R p) (mM (R (q + 2)) (R (q + 2))))) (sM (mM (R q) (mM (R (p + 2)) (R (p + 2)))) (mM (R p) (mM (R (q + 2)) (R (q + 2)))))) (sM (mM (R q) (mM (R (p + 2)) (R (p + 2)))) (mM (R p) (mM (R (q + 2)) (R (q + 2))))))) (mM (mM (R p) (mM (R (q + 2)) (R (q + 2)))) (mM (sM (mM (R q) (mM (R (p + 2)) (R (p + 2)))) (mM (R p) (mM (R (q + 2)) (R (q + 2))))) (sM (mM (R q) (mM (R (p + 2)) (R (p + 2)))) (mM (R p) (mM (R (q + 2)) (R (q + 2)))))))) (mM (mM (R p) (mM (R (q + 2)) (R (q + 2)))) (mM (sM (mM (R q) (mM (R (p + 2)) (R (p + 2)))) (mM (R p) (mM (R (q + 2)) (R (q + 2))))) (sM (mM (R q) (mM (R (p + 2)) (R (p + 2)))) (mM (R p) (mM (R (q + 2)) (R (q + 2)))))))) := ⟨_, rfl⟩
        rw [← s19] at C19
        have r19 : Q19 o = sM (sM (sM (mM (sM (mM (mM (R (q + 1)) (R (p + 2))) (mM (R (p + 2)) (R (p + 2)))) (mM (mM (R (p + 1)) (R (q + 2))) (mM (R (q + 2)) (R (q + 2))))) (sM (mM (mM (R (q + 1)) (R (p + 2))) (mM (R (p + 2)) (R (p + 2)))) (mM (mM (R (p + 1)) (R (q + 2))) (mM (R (q + 2)) (R (q + 2)))))) (mM (mM (sM (mM (R q) (mM (R (p + 2)) (R (p + 2)))) (mM (R p) (mM (R (q + 2)) (R (q + 2))))) (sM (mM (R q) (mM (R (p + 2)) (R (p + 2)))) (mM (R p) (mM (R (q + 2)) (R (q + 2)))))) (sM (mM (R q) (mM (R (p + 2)) (R (p + 2)))) (mM (R p) (mM (R (q + 2)) (R (q + 2))))))) (mM (mM (R p) (mM (R (q + 2)) (R (q + 2)))) (mM (sM (mM (R q) (mM (R (p + 2)) (R (p + 2)))) (mM (R p) (mM (R (q + 2)) (R (q + 2))))) (sM (mM (R q) (mM (R (p + 2)) (R (p + 2)))) (mM (R p) (mM (R (q + 2)) (R (q + 2)))))))) (mM (mM (R p) (mM (R (q + 2)) (R (q + 2)))) (mM (sM (mM (R q) (mM (R (p + 2)) (R (p + 2)))) (mM (R p) (mM (R (q + 2)) (R (q + 2))))) (sM (mM (R q) (mM (R (p + 2)) (R (p + 2)))) (mM (R p) (mM (R (q + 2)) (R (q + 2))))))) := by rw [s19]; exact va_up_self _ _ _
        have r19_1 : Q19 1 = mM (mM (sM (mM (R q) (mM (R (p + 2)) (R (p + 2)))) (mM (R p) (mM (R (q + 2)) (R (q + 2))))) (sM (mM (R q) (mM (R (p + 2)) (R (p + 2)))) (mM (R p) (mM (R (q + 2)) (R (q + 2)))))) (sM (mM (R q) (mM (R (p + 2)) (R (p + 2)))) (mM (R p) (mM (R (q + 2)) (R (q + 2))))) := by rw [s19]; exact (va_up_ne _ _ (Ne.symm (ne6 o0 (by decide)))).trans r18_1
        have r19_2 : Q19 2 = mM (mM (R p) (mM (R (q + 2)) (R (q + 2)))) (mM (sM (mM (R q) (mM (R (p + 2)) (R (p + 2)))) (mM (R p) (mM (R (q + 2)) (R (q + 2))))) (sM (mM (R q) (mM (R (p + 2)) (R (p + 2)))) (mM (R p) (mM (R (q + 2)) (R (q + 2)))))) := by rw [s19]; exact (va_up_ne _ _ (Ne.symm (ne6 o0 (by decide)))).trans r18_2
        have r19_4 : Q19 4 = mM (mM (R (p + 1)) (R (q + 2))) (mM (R (q + 2)) (R (q + 2))) := by rw [s19]; exact (va_up_ne _ _ (Ne.symm (ne6 o0 (by decide)))).trans r18_4
        have r19_5 : Q19 5 = sM (mM (mM (R (q + 1)) (R (p + 2))) (mM (R (p + 2)) (R (p + 2)))) (mM (mM (R (p + 1)) (R (q + 2))) (mM (R (q + 2)) (R (q + 2)))) := by rw [s19]; exact (va_up_ne _ _ (Ne.symm (ne6 o0 (by decide)))).trans r18_5
        have r19_o2 : Q19 (o + 2) = mM (mM (R (p + 2)) (R (q + 2))) (sM (mM (R q) (mM (R (p + 2)) (R (p + 2)))) (mM (R p) (mM (R (q + 2)) (R (q + 2))))) := by rw [s19]; exact (va_up_ne _ _ (Ne.symm n02)).trans r18_o2
        have O19 : ∀ j, 6 ≤ j → j ≠ o → j ≠ o + 1 → j ≠ o + 2 → Q19 j = R j := fun j h1 h2 h3 h4 => by rw [s19]; exact (va_up_ne _ _ h2).trans (O18 j h1 h2 h3 h4)
        refine ks_aload_n dX3_addPoints_262 rfl rfl ?_
        refine ks_getf (T := TX3) (kf := 0) kx_535 rfl in_X3 cl_X3 (by decide) C19.1 rfl dX3_addPoints_263 rfl ?_
        refine ks_bipush (x := nI 18) dX3_addPoints_266 (by decide) rfl ?_
        refine ks_bipush (x := nI 18) dX3_addPoints_268 (by decide) rfl ?_
        refine ks_iload_n dX3_addPoints_270 rfl rfl ?_
        refine ks_callV (n := 3) (M' := mX5_subtract) (c_cvs (d := d + 1) (o := 2) (x := 2) (y := o) C19 (by decide) (by decide) (Nat.lt_trans oa (by decide)) (lt_of_eq9 r19_2 (mM_lt _ _)) (lt_of_eq9 r19 (sM_lt _ _))) C19.2.1.1 cl_X5 rfl kx_518 kx_519 kx_520 kx_5 kx_521 (by decide +kernel) rfl (by decide) (Nat.le_of_ble_eq_true rfl) rfl dX3_addPoints_271 rfl (fun z20 T20 y20 => ?_)
        obtain ⟨rfl, u20, C20⟩ := y20
        rw [r19_2, r19] at C20
        obtain ⟨Q20, s20⟩ : ∃ Q, Q = va_up Q19 2 (sM (mM (mM (R p) (mM (R (q + 2)) (R (q + 2)))) (mM (sM (mM (R q) (mM (R (p + 2)) (R (p + 2)))) (mM (R p) (mM (R (q + 2)) (R (q + 2))))) (sM (mM (R q) (mM (R (p + 2)) (R (p + 2)))) (mM (R p) (mM (R (q + 2)) (R (q + 2))))))) (sM (sM (sM (mM (sM (mM (mM (R (q + 1)) (R (p + 2))) (mM (R (p + 2)) (R (p + 2)))) (mM (mM (R (p + 1)) (R (q + 2))) (mM (R (q + 2)) (R (q + 2))))) (sM (mM (mM (R (q + 1)) (R (p + 2))) (mM (R (p + 2)) (R (p + 2)))) (mM (mM (R (p + 1)) (R (q + 2))) (mM (R (q + 2)) (R (q + 2)))))) (mM (mM (sM (mM (R q) (mM (R (p + 2)) (R (p + 2)))) (mM (R p) (mM (R (q + 2)) (R (q + 2))))) (sM (mM (R q) (mM (R (p + 2)) (R (p + 2)))) (mM (R p) (mM (R (q + 2)) (R (q + 2)))))) (sM (mM (R q) (mM (R (p + 2)) (R (p + 2)))) (mM (R p) (mM (R (q + 2)) (R (q + 2))))))) (mM (mM (R p) (mM (R (q + 2)) (R (q + 2)))) (mM (sM (mM (R q) (mM (R (p + 2)) (R (p + 2)))) (mM (R p) (mM (R (q + 2)) (R (q + 2))))) (sM (mM (R q) (mM (R (p + 2)) (R (p + 2)))) (mM (R p) (mM (R (q + 2)) (R (q + 2)))))))) (mM (mM (R p) (mM (R (q + 2)) (R (q + 2)))) (mM (sM (mM (R q) (mM (R (p + 2)) (R (p + 2)))) (mM (R p) (mM (R (q + 2)) (R (q + 2))))) (sM (mM (R q) (mM (R (p + 2)) (R (p + 2)))) (mM (R p) (mM (R (q + 2)) (R (q + 2))))))))) := ⟨_, rfl⟩
        rw [← s20] at C20
        have r20 : Q20 2 = sM (mM (mM (R p) (mM (R (q + 2)) (R (q + 2)))) (mM (sM (mM (R q) (mM (R (p + 2)) (R (p + 2)))) (mM (R p) (mM (R (q + 2)) (R (q + 2))))) (sM (mM (R q) (mM (R (p + 2)) (R (p + 2)))) (mM (R p) (mM (R (q + 2)) (R (q + 2))))))) (sM (sM (sM (mM (sM (mM (mM (R (q + 1)) (R (p + 2))) (mM (R (p + 2)) (R (p + 2)))) (mM (mM (R (p + 1)) (R (q + 2))) (mM (R (q + 2)) (R (q + 2))))) (sM (mM (mM (R (q + 1)) (R (p + 2))) (mM (R (p + 2)) (R (p + 2)))) (mM (mM (R (p + 1)) (R (q + 2))) (mM (R (q + 2)) (R (q + 2)))))) (mM (mM (sM (mM (R q) (mM (R (p + 2)) (R (p + 2)))) (mM (R p) (mM (R (q + 2)) (R (q + 2))))) (sM (mM (R q) (mM (R (p + 2)) (R (p + 2)))) (mM (R p) (mM (R (q + 2)) (R (q + 2)))))) (sM (mM (R q) (mM (R (p + 2)) (R (p + 2)))) (mM (R p) (mM (R (q + 2)) (R (q + 2))))))) (mM (mM (R p) (mM (R (q + 2)) (R (q + 2)))) (mM (sM (mM (R q) (mM (R (p + 2)) (R (p + 2)))) (mM (R p) (mM (R (q + 2)) (R (q + 2))))) (sM (mM (R q) (mM (R (p + 2)) (R (p + 2)))) (mM (R p) (mM (R (q + 2)) (R (q + 2)))))))) (mM (mM (R p) (mM (R (q + 2)) (R (q + 2)))) (mM (sM (mM (R q) (mM (R (p + 2)) (R (p + 2)))) (mM (R p) (mM (R (q + 2)) (R (q + 2))))) (sM (mM (R q) (mM (R (p + 2)) (R (p + 2)))) (mM (R p) (mM (R (q + 2)) (R (q + 2)))))))) := by rw [s20]; exact va_up_self _ _ _
        have r20_1 : Q20 1 = mM (mM (sM (mM (R q) (mM (R (p + 2)) (R (p + 2)))) (mM (R p) (mM (R (q + 2)) (R (q + 2))))) (sM (mM (R q) (mM (R (p + 2)) (R (p + 2)))) (mM (R p) (mM (R (q + 2)) (R (q + 2)))))) (sM (mM (R q) (mM (R (p + 2)) (R (p + 2)))) (mM (R p) (mM (R (q + 2)) (R (q + 2))))) := by rw [s20]; exact (va_up_ne _ _ (by decide)).trans r19_1
        have r20_4 : Q20 4 = mM (mM (R (p + 1)) (R (q + 2))) (mM (R (q + 2)) (R (q + 2))) := by rw [s20]; exact (va_up_ne _ _ (by decide)).trans r19_4
        have r20_5 : Q20 5 = sM (mM (mM (R (q + 1)) (R (p + 2))) (mM (R (p + 2)) (R (p + 2)))) (mM (mM (R (p + 1)) (R (q + 2))) (mM (R (q + 2)) (R (q + 2)))) := by rw [s20]; exact (va_up_ne _ _ (by decide)).trans r19_5
        have r20_o : Q20 o = sM (sM (sM (mM (sM (mM (mM (R (q + 1)) (R (p + 2))) (mM (R (p + 2)) (R (p + 2)))) (mM (mM (R (p + 1)) (R (q + 2))) (mM (R (q + 2)) (R (q + 2))))) (sM (mM (mM (R (q + 1)) (R (p + 2))) (mM (R (p + 2)) (R (p + 2)))) (mM (mM (R (p + 1)) (R (q + 2))) (mM (R (q + 2)) (R (q + 2)))))) (mM (mM (sM (mM (R q) (mM (R (p + 2)) (R (p + 2)))) (mM (R p) (mM (R (q + 2)) (R (q + 2))))) (sM (mM (R q) (mM (R (p + 2)) (R (p + 2)))) (mM (R p) (mM (R (q + 2)) (R (q + 2)))))) (sM (mM (R q) (mM (R (p + 2)) (R (p + 2)))) (mM (R p) (mM (R (q + 2)) (R (q + 2))))))) (mM (mM (R p) (mM (R (q + 2)) (R (q + 2)))) (mM (sM (mM (R q) (mM (R (p + 2)) (R (p + 2)))) (mM (R p) (mM (R (q + 2)) (R (q + 2))))) (sM (mM (R q) (mM (R (p + 2)) (R (p + 2)))) (mM (R p) (mM (R (q + 2)) (R (q + 2)))))))) (mM (mM (R p) (mM (R (q + 2)) (R (q + 2)))) (mM (sM (mM (R q) (mM (R (p + 2)) (R (p + 2)))) (mM (R p) (mM (R (q + 2)) (R (q + 2))))) (sM (mM (R q) (mM (R (p + 2)) (R (p + 2)))) (mM (R p) (mM (R (q + 2)) (R (q + 2))))))) := by rw [s20]; exact (va_up_ne _ _ (ne6 o0 (by decide))).trans r19
        have r20_o2 : Q20 (o + 2) = mM (mM (R (p + 2)) (R (q + 2))) (sM (mM (R q) (mM (R (p + 2)) (R (p + 2)))) (mM (R p) (mM (R (q + 2)) (R (q + 2))))) := by rw [s20]; exact (va_up_ne _ _ (ne6 o2 (by decide))).trans r19_o2
        have O20 : ∀ j, 6 ≤ j → j ≠ o → j ≠ o + 1 → j ≠ o + 2 → Q20 j = R j := fun j h1 h2 h3 h4 => by rw [s20]; exact (va_up_ne _ _ (ne6 h1 (by decide))).trans (O19 j h1 h2 h3 h4)
        refine ks_aload_n dX3_addPoints_274 rfl rfl ?_
        refine ks_bipush (x := nI 18) dX3_addPoints_275 (by decide) rfl ?_
        refine ks_bipush (x := nI 18) dX3_addPoints_277 (by decide) rfl ?_
        refine ks_bipush (x := nI 45) dX3_addPoints_279 (by decide) rfl ?_
        refine ks_callV (n := 3) (M' := mX3_multiply) (c_cvm (d := d + 1) (o := 2) (x := 2) (y := 5) C20 (by decide) (by decide) (by decide) (Nat.lt_trans (lt_of_eq9 r20 (sM_lt _ _)) pP_lt) (Nat.lt_trans (lt_of_eq9 r20_5 (sM_lt _ _)) pP_lt)) C20.1 cl_X3 rfl kx_502 kx_504 kxp_2 kx_4 kx_505 (by decide +kernel) rfl (by decide) (Nat.le_of_ble_eq_true rfl) rfl dX3_addPoints_281 rfl (fun z21 T21 y21 => ?_)
        obtain ⟨rfl, u21, C21⟩ := y21
        rw [r20, r20_5] at C21
        obtain ⟨Q21, s21⟩ : ∃ Q, Q = va_up Q20 2 (mM (sM (mM (mM (R p) (mM (R (q + 2)) (R (q + 2)))) (mM (sM (mM (R q) (mM (R (p + 2)) (R (p + 2)))) (mM (R p) (mM (R (q + 2)) (R (q + 2))))) (sM (mM (R q) (mM (R (p + 2)) (R (p + 2)))) (mM (R p) (mM (R (q + 2)) (R (q + 2))))))) (sM (sM (sM (mM (sM (mM (mM (R (q + 1)) (R (p + 2))) (mM (R (p + 2)) (R (p + 2)))) (mM (mM (R (p + 1)) (R (q + 2))) (mM (R (q + 2)) (R (q + 2))))) (sM (mM (mM (R (q + 1)) (R (p + 2))) (mM (R (p + 2)) (R (p + 2)))) (mM (mM (R (p + 1)) (R (q + 2))) (mM (R (q + 2)) (R (q + 2)))))) (mM (mM (sM (mM (R q) (mM (R (p + 2)) (R (p + 2)))) (mM (R p) (mM (R (q + 2)) (R (q + 2))))) (sM (mM (R q) (mM (R (p + 2)) (R (p + 2)))) (mM (R p) (mM (R (q + 2)) (R (q + 2)))))) (sM (mM (R q) (mM (R (p + 2)) (R (p + 2)))) (mM (R p) (mM (R (q + 2)) (R (q + 2))))))) (mM (mM (R p) (mM (R (q + 2)) (R (q + 2)))) (mM (sM (mM (R q) (mM (R (p + 2)) (R (p + 2)))) (mM (R p) (mM (R (q + 2)) (R (q + 2))))) (sM (mM (R q) (mM (R (p + 2)) (R (p + 2)))) (mM (R p) (mM (R (q + 2)) (R (q + 2)))))))) (mM (mM (R p) (mM (R (q + 2)) (R (q + 2)))) (mM (sM (mM (R q) (mM (R (p + 2)) (R (p + 2)))) (mM (R p) (mM (R (q + 2)) (R (q + 2))))) (sM (mM (R q) (mM (R (p + 2)) (R (p + 2)))) (mM (R p) (mM (R (q + 2)) (R (q + 2))))))))) (sM (mM (mM (R (q + 1)) (R (p + 2))) (mM (R (p + 2)) (R (p + 2)))) (mM (mM (R (p + 1)) (R (q + 2))) (mM (R (q + 2)) (R (q + 2)))))) := ⟨_, rfl⟩
        rw [← s21] at C21
        have r21 : Q21 2 = mM (sM (mM (mM (R p) (mM (R (q + 2)) (R (q + 2)))) (mM (sM (mM (R q) (mM (R (p + 2)) (R (p + 2)))) (mM (R p) (mM (R (q + 2)) (R (q + 2))))) (sM (mM (R q) (mM (R (p + 2)) (R (p + 2)))) (mM (R p) (mM (R (q + 2)) (R (q + 2))))))) (sM (sM (sM (mM (sM (mM (mM (R (q + 1)) (R (p + 2))) (mM (R (p + 2)) (R (p + 2)))) (mM (mM (R (p + 1)) (R (q + 2))) (mM (R (q + 2)) (R (q + 2))))) (sM (mM (mM (R (q + 1)) (R (p + 2))) (mM (R (p + 2)) (R (p + 2)))) (mM (mM (R (p + 1)) (R (q + 2))) (mM (R (q + 2)) (R (q + 2)))))) (mM (mM (sM (mM (R q) (mM (R (p + 2)) (R (p + 2)))) (mM (R p) (mM (R (q + 2)) (R (q + 2))))) (sM (mM (R q) (mM (R (p + 2)) (R (p + 2)))) (mM (R p) (mM (R (q + 2)) (R (q + 2)))))) (sM (mM (R q) (mM (R (p + 2)) (R (p + 2)))) (mM (R p) (mM (R (q + 2)) (R (q + 2))))))) (mM (mM (R p) (mM (R (q + 2)) (R (q + 2)))) (mM (sM (mM (R q) (mM (R (p + 2)) (R (p + 2)))) (mM (R p) (mM (R (q + 2)) (R (q + 2))))) (sM (mM (R q) (mM (R (p + 2)) (R (p + 2)))) (mM (R p) (mM (R (q + 2)) (R (q + 2)))))))) (mM (mM (R p) (mM (R (q + 2)) (R (q + 2)))) (mM (sM (mM (R q) (mM (R (p + 2)) (R (p + 2)))) (mM (R p) (mM (R (q + 2)) (R (q + 2))))) (sM (mM (R q) (mM (R (p + 2)) (R (p + 2)))) (mM (R p) (mM (R (q + 2)) (R (q + 2))))))))) (sM (mM (mM (R (q + 1)) (R (p + 2))) (mM (R (p + 2)) (R (p + 2)))) (mM (mM (R (p + 1)) (R (q + 2))) (mM (R (q + 2)) (R (q + 2))))) := by rw [s21]; exact va_up_self _ _ _
        have r21_1 : Q21 1 = mM (mM (sM (mM (R q) (mM (R (p + 2)) (R (p + 2)))) (mM (R p) (mM (R (q + 2)) (R (q + 2))))) (sM (mM (R q) (mM (R (p + 2)) (R (p + 2)))) (mM (R p) (mM (R (q + 2)) (R (q + 2)))))) (sM (mM (R q) (mM (R (p + 2)) (R (p + 2)))) (mM (R p) (mM (R (q + 2)) (R (q + 2))))) := by rw [s21]; exact (va_up_ne _ _ (by decide)).trans r20_1
        have r21_4 : Q21 4 = mM (mM (R (p + 1)) (R (q + 2))) (mM (R (q + 2)) (R (q + 2))) := by rw [s21]; exact (va_up_ne _ _ (by decide)).trans r20_4
        have r21_o : Q21 o = sM (sM (sM (mM (sM (mM (mM (R (q + 1)) (R (p + 2))) (mM (R (p + 2)) (R (p + 2)))) (mM (mM (R (p + 1)) (R (q + 2))) (mM (R (q + 2)) (R (q + 2))))) (sM (mM (mM (R (q + 1)) (R (p + 2))) (mM (R (p + 2)) (R (p + 2)))) (mM (mM (R (p + 1)) (R (q + 2))) (mM (R (q + 2)) (R (q + 2)))))) (mM (mM (sM (mM (R q) (mM (R (p + 2)) (R (p + 2)))) (mM (R p) (mM (R (q + 2)) (R (q + 2))))) (sM (mM (R q) (mM (R (p + 2)) (R (p + 2)))) (mM (R p) (mM (R (q + 2)) (R (q + 2)))))) (sM (mM (R q) (mM (R (p + 2)) (R (p + 2)))) (mM (R p) (mM (R (q + 2)) (R (q + 2))))))) (mM (mM (R p) (mM (R (q + 2)) (R (q + 2)))) (mM (sM (mM (R q) (mM (R (p + 2)) (R (p + 2)))) (mM (R p) (mM (R (q + 2)) (R (q + 2))))) (sM (mM (R q) (mM (R (p + 2)) (R (p + 2)))) (mM (R p) (mM (R (q + 2)) (R (q + 2)))))))) (mM (mM (R p) (mM (R (q + 2)) (R (q + 2)))) (mM (sM (mM (R q) (mM (R (p + 2)) (R (p + 2)))) (mM (R p) (mM (R (q + 2)) (R (q + 2))))) (sM (mM (R q) (mM (R (p + 2)) (R (p + 2)))) (mM (R p) (mM (R (q + 2)) (R (q + 2))))))) := by rw [s21]; exact (va_up_ne _ _ (ne6 o0 (by decide))).trans r20_o
        have r21_o2 : Q21 (o + 2) = mM (mM (R (p + 2)) (R (q + 2))) (sM (mM (R q) (mM (R (p + 2)) (R (p + 2)))) (mM (R p) (mM (R (q + 2)) (R (q + 2))))) := by rw [s21]; exact (va_up_ne _ _ (ne6 o2 (by decide))).trans r20_o2
        have O21 : ∀ j, 6 ≤ j → j ≠ o → j ≠ o + 1 → j ≠ o + 2 → Q21 j = R j := fun j h1 h2 h3 h4 => by rw [s21]; exact (va_up_ne _ _ (ne6 h1 (by decide))).trans (O20 j h1 h2 h3 h4)
        refine ks_aload_n dX3_addPoints_284 rfl rfl ?_
        refine ks_bipush (x := nI 36) dX3_addPoints_285 (by decide) rfl ?_
        refine ks_bipush (x := nI 36) dX3_addPoints_287 (by decide) rfl ?_
        refine ks_bipush (x := nI 9) dX3_addPoints_289 (by decide) rfl ?_
        refine ks_callV (n := 3) (M' := mX3_multiply) (c_cvm (d := d + 1) (o := 4) (x := 4) (y := 1) C21 (by decide) (by decide) (by decide) (Nat.lt_trans (lt_of_eq9 r21_4 (mM_lt _ _)) pP_lt) (Nat.lt_trans (lt_of_eq9 r21_1 (mM_lt _ _)) pP_lt)) C21.1 cl_X3 rfl kx_502 kx_504 kxp_2 kx_4 kx_505 (by decide +kernel) rfl (by decide) (Nat.le_of_ble_eq_true rfl) rfl dX3_addPoints_291 rfl (fun z22 T22 y22 => ?_)
        obtain ⟨rfl, u22, C22⟩ := y22
        rw [r21_4, r21_1] at C22
        obtain ⟨Q22, s22⟩ : ∃ Q, Q = va_up Q21 4 (mM (mM (mM (R (p + 1)) (R (q + 2))) (mM (R (q + 2)) (R (q + 2)))) (mM (mM (sM (mM (R q) (mM (R (p + 2)) (R (p + 2)))) (mM (R p) (mM (R (q + 2)) (R (q + 2))))) (sM (mM (R q) (mM (R (p + 2)) (R (p + 2)))) (mM (R p) (mM (R (q + 2)) (R (q + 2)))))) (sM (mM (R q) (mM (R (p + 2)) (R (p + 2)))) (mM (R p) (mM (R (q + 2)) (R (q + 2))))))) := ⟨_, rfl⟩
        rw [← s22] at C22
        have r22 : Q22 4 = mM (mM (mM (R (p + 1)) (R (q + 2))) (mM (R (q + 2)) (R (q + 2)))) (mM (mM (sM (mM (R q) (mM (R (p + 2)) (R (p + 2)))) (mM (R p) (mM (R (q + 2)) (R (q + 2))))) (sM (mM (R q) (mM (R (p + 2)) (R (p + 2)))) (mM (R p) (mM (R (q + 2)) (R (q + 2)))))) (sM (mM (R q) (mM (R (p + 2)) (R (p + 2)))) (mM (R p) (mM (R (q + 2)) (R (q + 2)))))) := by rw [s22]; exact va_up_self _ _ _
        have r22_2 : Q22 2 = mM (sM (mM (mM (R p) (mM (R (q + 2)) (R (q + 2)))) (mM (sM (mM (R q) (mM (R (p + 2)) (R (p + 2)))) (mM (R p) (mM (R (q + 2)) (R (q + 2))))) (sM (mM (R q) (mM (R (p + 2)) (R (p + 2)))) (mM (R p) (mM (R (q + 2)) (R (q + 2))))))) (sM (sM (sM (mM (sM (mM (mM (R (q + 1)) (R (p + 2))) (mM (R (p + 2)) (R (p + 2)))) (mM (mM (R (p + 1)) (R (q + 2))) (mM (R (q + 2)) (R (q + 2))))) (sM (mM (mM (R (q + 1)) (R (p + 2))) (mM (R (p + 2)) (R (p + 2)))) (mM (mM (R (p + 1)) (R (q + 2))) (mM (R (q + 2)) (R (q + 2)))))) (mM (mM (sM (mM (R q) (mM (R (p + 2)) (R (p + 2)))) (mM (R p) (mM (R (q + 2)) (R (q + 2))))) (sM (mM (R q) (mM (R (p + 2)) (R (p + 2)))) (mM (R p) (mM (R (q + 2)) (R (q + 2)))))) (sM (mM (R q) (mM (R (p + 2)) (R (p + 2)))) (mM (R p) (mM (R (q + 2)) (R (q + 2))))))) (mM (mM (R p) (mM (R (q + 2)) (R (q + 2)))) (mM (sM (mM (R q) (mM (R (p + 2)) (R (p + 2)))) (mM (R p) (mM (R (q + 2)) (R (q + 2))))) (sM (mM (R q) (mM (R (p + 2)) (R (p + 2)))) (mM (R p) (mM (R (q + 2)) (R (q + 2)))))))) (mM (mM (R p) (mM (R (q + 2)) (R (q + 2)))) (mM (sM (mM (R q) (mM (R (p + 2)) (R (p + 2)))) (mM (R p) (mM (R (q + 2)) (R (q + 2))))) (sM (mM (R q) (mM (R (p + 2)) (R (p + 2)))) (mM (R p) (mM (R (q + 2)) (R (q + 2))))))))) (sM (mM (mM (R (q + 1)) (R (p + 2))) (mM (R (p + 2)) (R (p + 2)))) (mM (mM (R (p + 1)) (R (q + 2))) (mM (R (q + 2)) (R (q + 2))))) := by rw [s22]; exact (va_up_ne _ _ (by decide)).trans r21
        have r22_o : Q22 o = sM (sM (sM (mM (sM (mM (mM (R (q + 1)) (R (p + 2))) (mM (R (p + 2)) (R (p + 2)))) (mM (mM (R (p + 1)) (R (q + 2))) (mM (R (q + 2)) (R (q + 2))))) (sM (mM (mM (R (q + 1)) (R (p + 2))) (mM (R (p + 2)) (R (p + 2)))) (mM (mM (R (p + 1)) (R (q + 2))) (mM (R (q + 2)) (R (q + 2)))))) (mM (mM (sM (mM (R q) (mM (R (p + 2)) (R (p + 2)))) (mM (R p) (mM (R (q + 2)) (R (q + 2))))) (sM (mM (R q) (mM (R (p + 2)) (R (p + 2)))) (mM (R p) (mM (R (q + 2)) (R (q + 2)))))) (sM (mM (R q) (mM (R (p + 2)) (R (p + 2)))) (mM (R p) (mM (R (q + 2)) (R (q + 2))))))) (mM (mM (R p) (mM (R (q + 2)) (R (q + 2)))) (mM (sM (mM (R q) (mM (R (p + 2)) (R (p + 2)))) (mM (R p) (mM (R (q + 2)) (R (q + 2))))) (sM (mM (R q) (mM (R (p + 2)) (R (p + 2)))) (mM (R p) (mM (R (q + 2)) (R (q + 2)))))))) (mM (mM (R p) (mM (R (q + 2)) (R (q + 2)))) (mM (sM (mM (R q) (mM (R (p + 2)) (R (p + 2)))) (mM (R p) (mM (R (q + 2)) (R (q + 2))))) (sM (mM (R q) (mM (R (p + 2)) (R (p + 2)))) (mM (R p) (mM (R (q + 2)) (R (q + 2))))))) := by rw [s22]; exact (va_up_ne _ _ (ne6 o0 (by decide))).trans r21_o
        have r22_o2 : Q22 (o + 2) = mM (mM (R (p + 2)) (R (q + 2))) (sM (mM (R q) (mM (R (p + 2)) (R (p + 2)))) (mM (R p) (mM (R (q + 2)) (R (q + 2))))) := by rw [s22]; exact (va_up_ne _ _ (ne6 o2 (by decide))).trans r21_o2
        have O22 : ∀ j, 6 ≤ j → j ≠ o → j ≠ o + 1 → j ≠ o + 2 → Q22 j = R j := fun j h1 h2 h3 h4 => by rw [s22]; exact (va_up_ne _ _ (ne6 h1 (by decide))).trans (O21 j h1 h2 h3 h4)
        refine ks_aload_n dX3_addPoints_294 rfl rfl ?_
        refine ks_getf (T := TX3) (kf := 0) kx_535 rfl in_X3 cl_X3 (by decide) C22.1 rfl dX3_addPoints_295 rfl ?_
        refine ks_iload_n dX3_addPoints_298 rfl rfl ?_
        refine ks_bipush (x := nI 9) dX3_addPoints_299 (by decide) rfl ?_
        refine ks_addN dX3_addPoints_301 rfl ?_
        refine ks_bipush (x := nI 18) dX3_addPoints_302 (by decide) rfl ?_
        refine ks_bipush (x := nI 36) dX3_addPoints_304 (by decide) rfl ?_
        refine ks_callV (n := 3) (M' := mX5_subtract) (c_cvs (d := d + 1) (o := o + 1) (x := 2) (y := 4) C22 ob (by decide) (by decide) (lt_of_eq9 r22_2 (mM_lt _ _)) (lt_of_eq9 r22 (mM_lt _ _))) C22.2.1.1 cl_X5 rfl kx_518 kx_519 kx_520 kx_5 kx_521 (by decide +kernel) rfl (by decide) (Nat.le_of_ble_eq_true rfl) rfl dX3_addPoints_306 rfl (fun z23 T23 y23 => ?_)
        obtain ⟨rfl, u23, C23⟩ := y23
        rw [r22_2, r22] at C23
        obtain ⟨Q23, s23⟩ : ∃ Q, Q = va_up Q22 (o + 1) (sM (mM (sM (mM (mM (R p) (mM (R (q + 2)) (R (q + 2)))) (mM (sM (mM (R q) (mM (R (p + 2)) (R (p + 2)))) (mM (R p) (mM (R (q + 2)) (R (q + 2))))) (sM (mM (R q) (mM (R (p + 2)) (R (p + 2)))) (mM (R p) (mM (R (q + 2)) (R (q + 2))))))) (sM (sM (sM (mM (sM (mM (mM (R (q + 1)) (R (p + 2))) (mM (R (p + 2)) (R (p + 2)))) (mM (mM (R (p + 1)) (R (q + 2))) (mM (R (q + 2)) (R (q + 2))))) (sM (mM (mM (R (q + 1)) (R (p + 2))) (mM (R (p + 2)) (R (p + 2)))) (mM (mM (R (p + 1)) (R (q + 2))) (mM (R (q + 2)) (R (q + 2)))))) (mM (mM (sM (mM (R q) (mM (R (p + 2)) (R (p + 2)))) (mM (R p) (mM (R (q + 2)) (R (q + 2))))) (sM (mM (R q) (mM (R (p + 2)) (R (p + 2)))) (mM (R p) (mM (R (q + 2)) (R (q + 2)))))) (sM (mM (R q) (mM (R (p + 2)) (R (p + 2)))) (mM (R p) (mM (R (q + 2)) (R (q + 2))))))) (mM (mM (R p) (mM (R (q + 2)) (R (q + 2)))) (mM (sM (mM (R q) (mM (R (p + 2)) (R (p + 2)))) (mM (R p) (mM (R (q + 2)) (R (q + 2))))) (sM (mM (R q) (mM (R (p + 2)) (R (p + 2)))) (mM (R p) (mM (R (q + 2)) (R (q + 2)))))))) (mM (mM (R p) (mM (R (q + 2)) (R (q + 2)))) (mM (sM (mM (R q) (mM (R (p + 2)) (R (p + 2)))) (mM (R p) (mM (R (q + 2)) (R (q + 2))))) (sM (mM (R q) (mM (R (p + 2)) (R (p + 2)))) (mM (R p) (mM (R (q + 2)) (R (q + 2))))))))) (sM (mM (mM (R (q + 1)) (R (p + 2))) (mM (R (p + 2)) (R (p + 2)))) (mM (mM (R (p + 1)) (R (q + 2))) (mM (R (q + 2)) (R (q + 2)))))) (mM (mM (mM (R (p + 1)) (R (q + 2))) (mM (R (q + 2)) (R (q + 2)))) (mM (mM (sM (mM (R q) (mM (R (p + 2)) (R (p + 2)))) (mM (R p) (mM (R (q + 2)) (R (q + 2))))) (sM (mM (R q) (mM (R (p + 2)) (R (p + 2)))) (mM (R p) (mM (R (q + 2)) (R (q + 2)))))) (sM (mM (R q) (mM (R (p + 2)) (R (p + 2)))) (mM (R p) (mM (R (q + 2)) (R (q + 2)))))))) := ⟨_, rfl⟩
        rw [← s23] at C23
        have r23 : Q23 (o + 1) = sM (mM (sM (mM (mM (R p) (mM (R (q + 2)) (R (q + 2)))) (mM (sM (mM (R q) (mM (R (p + 2)) (R (p + 2)))) (mM (R p) (mM (R (q + 2)) (R (q + 2))))) (sM (mM (R q) (mM (R (p + 2)) (R (p + 2)))) (mM (R p) (mM (R (q + 2)) (R (q + 2))))))) (sM (sM (sM (mM (sM (mM (mM (R (q + 1)) (R (p + 2))) (mM (R (p + 2)) (R (p + 2)))) (mM (mM (R (p + 1)) (R (q + 2))) (mM (R (q + 2)) (R (q + 2))))) (sM (mM (mM (R (q + 1)) (R (p + 2))) (mM (R (p + 2)) (R (p + 2)))) (mM (mM (R (p + 1)) (R (q + 2))) (mM (R (q + 2)) (R (q + 2)))))) (mM (mM (sM (mM (R q) (mM (R (p + 2)) (R (p + 2)))) (mM (R p) (mM (R (q + 2)) (R (q + 2))))) (sM (mM (R q) (mM (R (p + 2)) (R (p + 2)))) (mM (R p) (mM (R (q + 2)) (R (q + 2)))))) (sM (mM (R q) (mM (R (p + 2)) (R (p + 2)))) (mM (R p) (mM (R (q + 2)) (R (q + 2))))))) (mM (mM (R p) (mM (R (q + 2)) (R (q + 2)))) (mM (sM (mM (R q) (mM (R (p + 2)) (R (p + 2)))) (mM (R p) (mM (R (q + 2)) (R (q + 2))))) (sM (mM (R q) (mM (R (p + 2)) (R (p + 2)))) (mM (R p) (mM (R (q + 2)) (R (q + 2)))))))) (mM (mM (R p) (mM (R (q + 2)) (R (q + 2)))) (mM (sM (mM (R q) (mM (R (p + 2)) (R (p + 2)))) (mM (R p) (mM (R (q + 2)) (R (q + 2))))) (sM (mM (R q) (mM (R (p + 2)) (R (p + 2)))) (mM (R p) (mM (R (q + 2)) (R (q + 2))))))))) (sM (mM (mM (R (q + 1)) (R (p + 2))) (mM (R (p + 2)) (R (p + 2)))) (mM (mM (R (p + 1)) (R (q + 2))) (mM (R (q + 2)) (R (q + 2)))))) (mM (mM (mM (R (p + 1)) (R (q + 2))) (mM (R (q + 2)) (R (q + 2)))) (mM (mM (sM (mM (R q) (mM (R (p + 2)) (R (p + 2)))) (mM (R p) (mM (R (q + 2)) (R (q + 2))))) (sM (mM (R q) (mM (R (p + 2)) (R (p + 2)))) (mM (R p) (mM (R (q + 2)) (R (q + 2)))))) (sM (mM (R q) (mM (R (p + 2)) (R (p + 2)))) (mM (R p) (mM (R (q + 2)) (R (q + 2))))))) := by rw [s23]; exact va_up_self _ _ _
        have r23_o : Q23 o = sM (sM (sM (mM (sM (mM (mM (R (q + 1)) (R (p + 2))) (mM (R (p + 2)) (R (p + 2)))) (mM (mM (R (p + 1)) (R (q + 2))) (mM (R (q + 2)) (R (q + 2))))) (sM (mM (mM (R (q + 1)) (R (p + 2))) (mM (R (p + 2)) (R (p + 2)))) (mM (mM (R (p + 1)) (R (q + 2))) (mM (R (q + 2)) (R (q + 2)))))) (mM (mM (sM (mM (R q) (mM (R (p + 2)) (R (p + 2)))) (mM (R p) (mM (R (q + 2)) (R (q + 2))))) (sM (mM (R q) (mM (R (p + 2)) (R (p + 2)))) (mM (R p) (mM (R (q + 2)) (R (q + 2)))))) (sM (mM (R q) (mM (R (p + 2)) (R (p + 2)))) (mM (R p) (mM (R (q + 2)) (R (q + 2))))))) (mM (mM (R p) (mM (R (q + 2)) (R (q + 2)))) (mM (sM (mM (R q) (mM (R (p + 2)) (R (p + 2)))) (mM (R p) (mM (R (q + 2)) (R (q + 2))))) (sM (mM (R q) (mM (R (p + 2)) (R (p + 2)))) (mM (R p) (mM (R (q + 2)) (R (q + 2)))))))) (mM (mM (R p) (mM (R (q + 2)) (R (q + 2)))) (mM (sM (mM (R q) (mM (R (p + 2)) (R (p + 2)))) (mM (R p) (mM (R (q + 2)) (R (q + 2))))) (sM (mM (R q) (mM (R (p + 2)) (R (p + 2)))) (mM (R p) (mM (R (q + 2)) (R (q + 2))))))) := by rw [s23]; exact (va_up_ne _ _ n01).trans r22_o
        have r23_o2 : Q23 (o + 2) = mM (mM (R (p + 2)) (R (q + 2))) (sM (mM (R q) (mM (R (p + 2)) (R (p + 2)))) (mM (R p) (mM (R (q + 2)) (R (q + 2))))) := by rw [s23]; exact (va_up_ne _ _ (Ne.symm n12)).trans r22_o2
        have O23 : ∀ j, 6 ≤ j → j ≠ o → j ≠ o + 1 → j ≠ o + 2 → Q23 j = R j := fun j h1 h2 h3 h4 => by rw [s23]; exact (va_up_ne _ _ h3).trans (O22 j h1 h2 h3 h4)
        refine ks_iconst (x := nI 1) dX3_addPoints_309 (by decide) rfl ?_
        refine ks_zret rfl rfl dX3_addPoints_310 ?_
        refine ⟨((((((((((((((((((((((u1.trans u2).trans u3).trans u4).trans u5).trans u6).trans u7).trans u8).trans u9).trans u10).trans u11).trans u12).trans u13).trans u14).trans u15).trans u16).trans u17).trans u18).trans u19).trans u20).trans u21).trans u22).trans u23), Q23, C23, O23, ?_⟩
        rw [if_neg hz0, if_neg (fun h => h5 h.2)]
        exact ⟨rfl, r23_o, r23, r23_o2⟩
      · have h5 := of_decide_eq_true g3
        refine ks_iconst (x := nI 0) dX3_addPoints_167 (by decide) rfl ?_
        refine ks_zret rfl rfl dX3_addPoints_168 ?_
        refine ⟨(((((((((u1.trans u2).trans u3).trans u4).trans u5).trans u6).trans u7).trans u8).trans u9).trans u10), Q10, C10, O10, ?_⟩
        rw [if_neg hz0, if_pos ⟨h3, h5⟩]
        exact ⟨rfl, r10_o, r10_o1, r10_o2⟩
  · refine ks_aload_n dX3_addPoints_14 rfl rfl ?_
    refine ks_getf (T := TX3) (kf := 0) kx_535 rfl in_X3 cl_X3 (by decide) hC.1 rfl dX3_addPoints_15 rfl ?_
    refine ks_iload_n dX3_addPoints_18 rfl rfl ?_
    refine ks_iload_n dX3_addPoints_19 rfl rfl ?_
    refine ks_iconst (x := nI 3) dX3_addPoints_20 (by decide) rfl ?_
    refine ks_callV (n := 3) (M' := mX5_copy) (c_fd_copy (d := d) (o := o) (x := q) (k := 3) hC.2.1 (by omega) (by omega)) hC.2.1.1 cl_X5 rfl kx_530 kx_531 kx_532 kx_5 kx_533 (by decide +kernel) rfl (by decide) (Nat.le_of_ble_eq_true rfl) rfl dX3_addPoints_21 rfl (fun z8 T8 y8 => ?_)
    obtain ⟨rfl, u8, f8⟩ := y8
    refine ks_iconst (x := nI 1) dX3_addPoints_24 (by decide) rfl ?_
    refine ks_zret rfl rfl dX3_addPoints_25 ?_
    refine ⟨u8, cpR R o q 3, hC.of u8 f8 (by unfold cpR; rw [if_neg (by omega)]), fun j h1 h2 h3 h4 => by unfold cpR; rw [if_neg (by omega)], ?_⟩
    rw [if_pos (of_decide_eq_true g1)]
    refine ⟨rfl, ?_, ?_, ?_⟩
    · unfold cpR
      rw [if_pos (by omega), Nat.sub_self, Nat.zero_add]
    · unfold cpR
      rw [if_pos (by omega), show o + 1 - o + q = q + 1 by omega]
    · unfold cpR
      rw [if_pos (by omega), show o + 2 - o + q = q + 2 by omega]
