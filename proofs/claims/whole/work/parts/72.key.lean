/-! CURVE: keys -/
def ky3 (x : Nat) : Nat := aM (mM (mM x x) x) 7
def kyE (x p : Nat) : Nat := if rtL (ky3 x) 256 1 % 2 = p then rtL (ky3 x) 256 1 else pP - rtL (ky3 x) 256 1
def kyW (g : Nat → Nat) (i c : Nat) : Bool := decide (c = 65 ∧ g i = 4)
def kyY (g : Nat → Nat) (i c : Nat) : Nat := if kyW g i c = true then beN g (i + 33) else kyE (beN g (i + 1)) (g i % 2)
def kyF (g : Nat → Nat) (i c : Nat) : Bool := decide ((kyW g i c = true ∨ (c = 33 ∧ (g i = 2 ∨ g i = 3))) ∧ beN g (i + 1) < pP ∧ (kyW g i c = true → beN g (i + 33) < pP) ∧ mM (kyY g i c) (kyY g i c) = ky3 (beN g (i + 1)))
theorem by_bit : ∀ c, c < 256 → sb_b c &&& nI 1 = nI (c % 2) := by decide +kernel
set_option maxRecDepth 100000 in
set_option maxHeartbeats 800000 in
theorem l_tk196 {l : Launch} {G : ks_G} {d : Nat} {S : ks_S} {ir : Bool} {R R3 g : Nat → Nat} {y i c Y t0 : Nat} {FF wh : Bool} {S1 : ks_S} (hu : ks_up S S1 [16]) (hC : cvX S1 ir R3) (e0 : R3 0 = t0) (e10 : R3 10 = beN g (i + 1)) (e11 : R3 11 = Y) (hY : Y ≤ pP) (hj : ∀ j, 6 ≤ j → j < 10 ∨ 13 ≤ j → R3 j = R j) (hF : FF = decide (mM Y Y = t0)) : ks_X l G mX3_takeKey (d + 4) 196 [(0, .ref 14), (1, .ref y), (2, .int (nI i)), (3, .int (nI c)), (4, .int (ks_bo wh))] [] S1 (fun z S' => z = some (.int (ks_bo FF)) ∧ ks_up S S' [16] ∧ ∃ R2, cvX S' ir R2 ∧ (∀ j, 6 ≤ j → j < 10 ∨ 13 ≤ j → R2 j = R j) ∧ (FF = true → R2 10 = beN g (i + 1) ∧ R2 11 = Y ∧ R2 12 = 1)) := by
  have p2 := pP_lt
  refine ks_aload_n dX3_takeKey_196 rfl rfl ?_
  refine ks_bipush (x := nI 9) dX3_takeKey_197 (by decide) rfl ?_
  refine ks_bipush (x := nI 99) dX3_takeKey_199 (by decide) rfl ?_
  refine ks_bipush (x := nI 99) dX3_takeKey_201 (by decide) rfl ?_
  refine ks_callV (n := 3) (M' := mX3_multiply) (c_cvm (d := d + 3) (o := 1) (x := 11) (y := 11) hC (by decide) (by decide) (by decide) (by rw [e11]; omega) (by rw [e11]; omega)) hC.1 cl_X3 rfl kx_502 kx_504 kxp_2 kx_4 kx_505 (by decide +kernel) rfl (by decide) (Nat.le_of_ble_eq_true rfl) rfl dX3_takeKey_203 rfl (fun z1 T1 y1 => ?_)
  obtain ⟨rfl, u1, C1⟩ := y1
  rw [e11] at C1
  refine ks_aload_n dX3_takeKey_206 rfl rfl ?_
  refine ks_getf (T := TX3) (kf := 0) kx_535 rfl in_X3 cl_X3 (by decide) C1.1 rfl dX3_takeKey_207 rfl ?_
  refine ks_bipush (x := nI 108) dX3_takeKey_210 (by decide) rfl ?_
  refine ks_iconst (x := nI 1) dX3_takeKey_212 (by decide) rfl ?_
  refine ks_callV (n := 2) (M' := mX5_loadSmall) (c_fd_loadSmall (d := d + 1) (o := 12) (v := 1) C1.2.1 (by decide) (by decide)) C1.2.1.1 cl_X5 rfl kx_145 kx_146 kx_147 kx_5 kx_148 (by decide +kernel) rfl (by decide) (Nat.le_of_ble_eq_true rfl) rfl dX3_takeKey_213 rfl (fun z2 T2 y2 => ?_)
  obtain ⟨rfl, u2, f2⟩ := y2
  have C2 := C1.of u2 f2 (va_up_ne _ _ (by decide))
  have v12 : va_up (va_up R3 1 (mM Y Y)) 12 1 12 = 1 := va_up_self _ _ _
  have v1 : va_up (va_up R3 1 (mM Y Y)) 12 1 1 = mM Y Y := (va_up_ne _ _ (by decide)).trans (va_up_self _ _ _)
  have vj : ∀ j, j ≠ 1 → j ≠ 12 → va_up (va_up R3 1 (mM Y Y)) 12 1 j = R3 j := fun j h1 h2 => (va_up_ne _ _ h2).trans (va_up_ne _ _ h1)
  generalize va_up (va_up R3 1 (mM Y Y)) 12 1 = F at *
  refine ks_aload_n dX3_takeKey_216 rfl rfl ?_
  refine ks_getf (T := TX3) (kf := 0) kx_535 rfl in_X3 cl_X3 (by decide) C2.1 rfl dX3_takeKey_217 rfl ?_
  refine ks_iconst (x := nI 0) dX3_takeKey_220 (by decide) rfl ?_
  refine ks_bipush (x := nI 9) dX3_takeKey_221 (by decide) rfl ?_
  refine ks_callV (n := 2) (M' := mX5_isSame) (c_fd_isSame (d := d + 3) (x := 0) (y := 1) C2.2.1 (by decide) (by decide)) C2.2.1.1 cl_X5 rfl kx_1628 kx_1629 kx_1630 kx_5 kx_1631 (by decide +kernel) rfl (by decide) (Nat.le_of_ble_eq_true rfl) rfl dX3_takeKey_223 rfl (fun z3 T3 y3 => ?_)
  obtain ⟨rfl, hT⟩ := y3
  obtain rfl := hT.symm
  rw [v1, vj 0 (by decide) (by decide), e0]
  have ed : decide (t0 = mM Y Y) = FF := by rw [hF]; exact decide_eq_decide.mpr ⟨Eq.symm, Eq.symm⟩
  rw [ed]
  refine ks_zret rfl (ks_bo_z _) dX3_takeKey_226 ?_
  exact ⟨rfl, hu.trans (u1.trans u2), F, C2, fun j h1 h2 => (vj j (by omega) (by omega)).trans (hj j h1 h2), fun _ => ⟨(vj 10 (by decide) (by decide)).trans e10, (vj 11 (by decide) (by decide)).trans e11, v12⟩⟩
set_option maxRecDepth 100000 in
set_option maxHeartbeats 800000 in
theorem l_tk47 {l : Launch} {G : ks_G} {d : Nat} {S : ks_S} {ir : Bool} {R g : Nat → Nat} {y N i c : Nat} {wh : Bool} (hC : cvX S ir R) (h7 : R 6 = 7) (hK : ks_stOK S) (hy : S.2.2 y = some (kB N g)) (hg : kO g) (hN : N < 2 ^ 20) (hi : i + c ≤ N) (hy14 : y ≠ 14) (hy15 : y ≠ 15) (hy16 : y ≠ 16) (hwh : wh = kyW g i c) (hform : wh = true ∨ (c = 33 ∧ (g i = 2 ∨ g i = 3))) : ks_X l G mX3_takeKey (d + 4) 47 [(0, .ref 14), (1, .ref y), (2, .int (nI i)), (3, .int (nI c)), (4, .int (ks_bo wh))] [] S (fun z S' => z = some (.int (ks_bo (kyF g i c))) ∧ ks_up S S' [16] ∧ ∃ R2, cvX S' ir R2 ∧ (∀ j, 6 ≤ j → j < 10 ∨ 13 ≤ j → R2 j = R j) ∧ ((kyF g i c) = true → R2 10 = beN g (i + 1) ∧ R2 11 = (kyY g i c) ∧ R2 12 = 1)) := by
  have p2 := pP_lt
  have hw9 : wh = true → c = 65 ∧ g i = 4 := fun h => of_decide_eq_true (show kyW g i c = true by rw [← hwh]; exact h)
  have hic : i + 33 ≤ N ∧ (wh = true → i + 65 ≤ N) := ⟨by rcases hform with h | h; have := hw9 h; omega; omega, fun h => by have := hw9 h; omega⟩
  have eF : kyF g i c = decide (beN g (i + 1) < pP ∧ (wh = true → beN g (i + 33) < pP) ∧ mM (kyY g i c) (kyY g i c) = ky3 (beN g (i + 1))) := by
    unfold kyF
    rw [← hwh]
    exact decide_eq_decide.mpr ⟨fun h => h.2, fun h => ⟨hform, h⟩⟩
  have eY : kyY g i c = if wh = true then beN g (i + 33) else kyE (beN g (i + 1)) (g i % 2) := by unfold kyY; rw [← hwh]
  have b1 := beN_lt hg (i + 1)
  have b33 := beN_lt hg (i + 33)
  generalize kyF g i c = FF at *
  generalize kyY g i c = YY at *
  unfold kyE at eY
  obtain ⟨kx, hkx⟩ : ∃ v, beN g (i + 1) = v := ⟨_, rfl⟩
  obtain ⟨k33, hk33⟩ : ∃ v, beN g (i + 33) = v := ⟨_, rfl⟩
  rw [hkx] at eF eY b1
  rw [hk33] at eF eY b33
  obtain ⟨t0, ht0⟩ : ∃ v, ky3 kx = v := ⟨_, rfl⟩
  rw [ht0] at eF eY
  obtain ⟨y0, hy0⟩ : ∃ v, rtL t0 256 1 = v := ⟨_, rfl⟩
  rw [hy0] at eY
  have t0b : t0 < pP := by rw [← ht0]; exact aM_lt _ _
  have y0b : y0 < pP := by rw [← hy0]; exact rtL_lt (by decide)
  refine ks_aload_n dX3_takeKey_47 rfl rfl ?_
  refine ks_getf (T := TX3) (kf := 0) kx_535 rfl in_X3 cl_X3 (by decide) hC.1 rfl dX3_takeKey_48 rfl ?_
  refine ks_bipush (x := nI 90) dX3_takeKey_51 (by decide) rfl ?_
  refine ks_aload_n dX3_takeKey_53 rfl rfl ?_
  refine ks_iload_n dX3_takeKey_54 rfl rfl ?_
  refine ks_iconst (x := nI 1) dX3_takeKey_55 (by decide) rfl ?_
  refine ks_addN dX3_takeKey_56 rfl ?_
  refine ks_callV (n := 3) (M' := mX5_load) (c_fd_load (d := d + 3) (o := 10) (i := i + 1) hC.2.1 (by decide) hy hg hN (by omega) hy16) hC.2.1.1 cl_X5 rfl kx_1365 kx_1366 kx_1367 kx_5 kx_1368 (by decide +kernel) rfl (by decide) (Nat.le_of_ble_eq_true rfl) rfl dX3_takeKey_57 rfl (fun z1 T1 y1 => ?_)
  obtain ⟨rfl, u1, f1⟩ := y1
  rw [hkx] at f1
  have C1 := hC.of u1 f1 (va_up_ne _ _ (by decide))
  have Y1 : T1.2.2 y = some (kB N g) := u1.at hy (by simp only [List.mem_cons, List.not_mem_nil, or_false]; exact hy16)
  have x1 : va_up R 10 kx 10 = kx := va_up_self _ _ _
  have j1 : ∀ j, j ≠ 10 → va_up R 10 kx j = R j := fun j h => va_up_ne _ _ h
  generalize va_up R 10 kx = F1 at *
  refine ks_aload_n dX3_takeKey_60 rfl rfl ?_
  refine ks_getf (T := TX3) (kf := 0) kx_535 rfl in_X3 cl_X3 (by decide) C1.1 rfl dX3_takeKey_61 rfl ?_
  refine ks_bipush (x := nI 90) dX3_takeKey_64 (by decide) rfl ?_
  refine ks_aload_n dX3_takeKey_66 rfl rfl ?_
  refine ks_getf (T := TX3) (kf := 0) kx_535 rfl in_X3 cl_X3 (by decide) C1.1 rfl dX3_takeKey_67 rfl ?_
  refine ks_getf (T := TX5) (kf := 1) kx_124 rfl in_X5 cl_X5 (by decide) C1.2.1.1 rfl dX3_takeKey_70 rfl ?_
  refine ks_callV (n := 2) (M' := mX5_isBelow) (c_fd_isBelow (d := d + 3) (x := 10) (y := 100) C1.2.1 (by decide) (by decide)) C1.2.1.1 cl_X5 rfl kx_1617 kx_1202 kx_1203 kx_5 kx_1204 (by decide +kernel) rfl (by decide) (Nat.le_of_ble_eq_true rfl) rfl dX3_takeKey_73 rfl (fun z2 T2 y2 => ?_)
  obtain ⟨rfl, hT⟩ := y2
  obtain rfl := hT.symm
  rw [x1, C1.2.2]
  refine ks_if_neZ (tgt := 81) dX3_takeKey_76 (by decide) rfl (fun h1 => ?_) (fun h1 => ?_)
  · have hx := of_decide_eq_true h1
    refine ks_aload_n dX3_takeKey_81 rfl rfl ?_
    refine ks_iconst (x := nI 0) dX3_takeKey_82 (by decide) rfl ?_
    refine ks_bipush (x := nI 90) dX3_takeKey_83 (by decide) rfl ?_
    refine ks_bipush (x := nI 90) dX3_takeKey_85 (by decide) rfl ?_
    refine ks_callV (n := 3) (M' := mX3_multiply) (c_cvm (d := d + 3) (o := 0) (x := 10) (y := 10) C1 (by decide) (by decide) (by decide) (by rw [x1]; omega) (by rw [x1]; omega)) C1.1 cl_X3 rfl kx_502 kx_504 kxp_2 kx_4 kx_505 (by decide +kernel) rfl (by decide) (Nat.le_of_ble_eq_true rfl) rfl dX3_takeKey_87 rfl (fun z3 T3 y3 => ?_)
    obtain ⟨rfl, u3, C3⟩ := y3
    rw [x1] at C3
    have s3 : va_up F1 0 (mM kx kx) 0 = mM kx kx := va_up_self _ _ _
    have j3 : ∀ j, j ≠ 0 → va_up F1 0 (mM kx kx) j = F1 j := fun j h => va_up_ne _ _ h
    generalize va_up F1 0 (mM kx kx) = F3 at *
    refine ks_aload_n dX3_takeKey_90 rfl rfl ?_
    refine ks_iconst (x := nI 0) dX3_takeKey_91 (by decide) rfl ?_
    refine ks_iconst (x := nI 0) dX3_takeKey_92 (by decide) rfl ?_
    refine ks_bipush (x := nI 90) dX3_takeKey_93 (by decide) rfl ?_
    refine ks_callV (n := 3) (M' := mX3_multiply) (c_cvm (d := d + 3) (o := 0) (x := 0) (y := 10) C3 (by decide) (by decide) (by decide) (by rw [s3]; have := mM_lt kx kx; omega) (by rw [j3 10 (by decide), x1]; omega)) C3.1 cl_X3 rfl kx_502 kx_504 kxp_2 kx_4 kx_505 (by decide +kernel) rfl (by decide) (Nat.le_of_ble_eq_true rfl) rfl dX3_takeKey_95 rfl (fun z4 T4 y4 => ?_)
    obtain ⟨rfl, u4, C4⟩ := y4
    rw [s3, j3 10 (by decide), x1] at C4
    have s4 : va_up F3 0 (mM (mM kx kx) kx) 0 = mM (mM kx kx) kx := va_up_self _ _ _
    have j4 : ∀ j, j ≠ 0 → va_up F3 0 (mM (mM kx kx) kx) j = F1 j := fun j h => (va_up_ne _ _ h).trans (j3 j h)
    generalize va_up F3 0 (mM (mM kx kx) kx) = F4 at *
    refine ks_aload_n dX3_takeKey_98 rfl rfl ?_
    refine ks_getf (T := TX3) (kf := 0) kx_535 rfl in_X3 cl_X3 (by decide) C4.1 rfl dX3_takeKey_99 rfl ?_
    refine ks_iconst (x := nI 0) dX3_takeKey_102 (by decide) rfl ?_
    refine ks_iconst (x := nI 0) dX3_takeKey_103 (by decide) rfl ?_
    refine ks_bipush (x := nI 54) dX3_takeKey_104 (by decide) rfl ?_
    refine ks_callV (n := 3) (M' := mX5_add) (c_cva (d := d + 3) (o := 0) (x := 0) (y := 6) C4 (by decide) (by decide) (by decide) (by rw [s4]; exact mM_lt _ _) (by rw [j4 6 (by decide), j1 6 (by decide), h7]; decide)) C4.2.1.1 cl_X5 rfl kx_514 kx_515 kx_516 kx_5 kx_517 (by decide +kernel) rfl (by decide) (Nat.le_of_ble_eq_true rfl) rfl dX3_takeKey_106 rfl (fun z5 T5 y5 => ?_)
    obtain ⟨rfl, u5, C5⟩ := y5
    rw [s4, j4 6 (by decide), j1 6 (by decide), h7, show aM (mM (mM kx kx) kx) 7 = t0 from ht0] at C5
    have s5 : va_up F4 0 t0 0 = t0 := va_up_self _ _ _
    have j5 : ∀ j, j ≠ 0 → va_up F4 0 t0 j = F1 j := fun j h => (va_up_ne _ _ h).trans (j4 j h)
    have x5 : va_up F4 0 t0 10 = kx := (j5 10 (by decide)).trans x1
    generalize va_up F4 0 t0 = F5 at *
    have uu := u1.trans (u3.trans (u4.trans u5))
    have Y5 : T5.2.2 y = some (kB N g) := uu.at hy (by simp only [List.mem_cons, List.not_mem_nil, or_false]; exact hy16)
    refine ks_iload dX3_takeKey_109 rfl rfl ?_
    refine ks_if_eqZ (tgt := 149) dX3_takeKey_111 (by decide) rfl (fun h2 => ?_) (fun h2 => ?_)
    · subst h2
      rw [if_neg (by decide)] at eY
      refine ks_aload_n dX3_takeKey_149 rfl rfl ?_
      refine ks_bipush (x := nI 99) dX3_takeKey_150 (by decide) rfl ?_
      refine ks_iconst (x := nI 0) dX3_takeKey_152 (by decide) rfl ?_
      refine ks_callV (n := 2) (M' := mX3_takeRoot) (c_cv_takeRoot (d := d) (o := 11) (x := 0) C5 (uu.st hK (by unfold ks_B; decide)) (by decide) (by decide) (by decide) (by rw [s5]; exact t0b)) C5.1 cl_X3 rfl kx_1622 kx_1624 kxp_41 kx_4 kx_1625 (by decide +kernel) rfl (by decide) (Nat.le_of_ble_eq_true rfl) rfl dX3_takeKey_153 rfl (fun z6 T6 y6 => ?_)
      obtain ⟨rfl, u6, F6, C6, r6, j6⟩ := y6
      rw [s5, hy0] at r6
      have Y6 : T6.2.2 y = some (kB N g) := u6.at Y5 (by simp only [List.mem_cons, List.not_mem_nil, or_false]; exact hy16)
      have el : lay F6 99 = y0 % 536870912 := by rw [← r6]; exact (lay_0 F6 11).trans (dL_0 _)
      refine ks_aload_n dX3_takeKey_156 rfl rfl ?_
      refine ks_getf (T := TX3) (kf := 0) kx_535 rfl in_X3 cl_X3 (by decide) C6.1 rfl dX3_takeKey_157 rfl ?_
      refine ks_getf (T := TX5) (kf := 0) kx_122 rfl in_X5 cl_X5 (by decide) C6.2.1.1 rfl dX3_takeKey_160 rfl ?_
      refine ks_bipush (x := nI 99) dX3_takeKey_163 (by decide) rfl ?_
      refine ks_laldN (i := 99) C6.2.1.2.1 rfl (by decide) (by decide) dX3_takeKey_165 rfl ?_
      rw [el]
      refine ks_lconst (x := lN 1) dX3_takeKey_166 (by decide) rfl ?_
      refine ks_landN (k := 1) (p := 2) (by decide) (by decide) (by decide) (by omega) dX3_takeKey_167 rfl ?_
      refine ks_aload_n dX3_takeKey_168 rfl rfl ?_
      refine ks_iload_n dX3_takeKey_169 rfl rfl ?_
      refine ks_baldB (i := i) Y6 rfl (by omega) (by omega) dX3_takeKey_170 rfl ?_
      refine ks_iconst (x := nI 1) dX3_takeKey_171 (by decide) rfl ?_
      refine ks_iand dX3_takeKey_172 rfl ?_
      refine ks_ti (y := nI (g i % 2)) (by_bit _ (hg i)) ?_
      refine ks_i2lN (by omega) dX3_takeKey_173 rfl ?_
      refine ks_lif_eqN (tgt := 196) (by omega) (by omega) dX3_takeKey_174 rfl dX3_takeKey_175 (by decide) rfl (fun h3 => ?_) (fun h3 => ?_)
      · have e3 : YY = y0 := by rw [eY, if_pos (by omega)]
        rw [e3] at eF ⊢
        refine l_tk196 (t0 := t0) (uu.trans u6) C6 ((j6 0 (by decide)).trans s5) ((j6 10 (by decide)).trans (x5.trans hkx.symm)) r6 (by omega) (fun j h1 h2 => (j6 j (by omega)).trans ((j5 j (by omega)).trans (j1 j (by omega)))) (by rw [eF]; exact decide_eq_decide.mpr ⟨fun h => h.2.2, fun h => ⟨hx, (fun h => by cases h), h⟩⟩)
      · refine ks_aload_n dX3_takeKey_178 rfl rfl ?_
        refine ks_getf (T := TX3) (kf := 0) kx_535 rfl in_X3 cl_X3 (by decide) C6.1 rfl dX3_takeKey_179 rfl ?_
        refine ks_bipush (x := nI 99) dX3_takeKey_182 (by decide) rfl ?_
        refine ks_aload_n dX3_takeKey_184 rfl rfl ?_
        refine ks_getf (T := TX3) (kf := 0) kx_535 rfl in_X3 cl_X3 (by decide) C6.1 rfl dX3_takeKey_185 rfl ?_
        refine ks_getf (T := TX5) (kf := 1) kx_124 rfl in_X5 cl_X5 (by decide) C6.2.1.1 rfl dX3_takeKey_188 rfl ?_
        refine ks_bipush (x := nI 99) dX3_takeKey_191 (by decide) rfl ?_
        refine ks_callV (n := 3) (M' := mX5_subtract) (c_fd_subtract (d := d + 3) (o := 11) (x := 100) (y := 11) C6.2.1 (by decide) (by decide) (by decide) (by decide) (by rw [r6, C6.2.2]; omega) (by rw [r6, C6.2.2]; omega)) C6.2.1.1 cl_X5 rfl kx_518 kx_519 kx_520 kx_5 kx_521 (by decide +kernel) rfl (by decide) (Nat.le_of_ble_eq_true rfl) rfl dX3_takeKey_193 rfl (fun z7 T7 y7 => ?_)
        obtain ⟨rfl, u7, f7⟩ := y7
        rw [r6, C6.2.2, if_pos (Nat.le_of_lt y0b)] at f7
        have C7 := C6.of u7 f7 (va_up_ne _ _ (by decide))
        have e3 : YY = pP - y0 := by rw [eY, if_neg (by omega)]
        rw [e3] at eF ⊢
        refine l_tk196 (t0 := t0) (uu.trans (u6.trans u7)) C7 ((va_up_ne _ _ (by decide)).trans ((j6 0 (by decide)).trans s5)) ((va_up_ne _ _ (by decide)).trans ((j6 10 (by decide)).trans (x5.trans hkx.symm))) (va_up_self _ _ _) (by omega) (fun j h1 h2 => (va_up_ne _ _ (by omega)).trans ((j6 j (by omega)).trans ((j5 j (by omega)).trans (j1 j (by omega))))) (by rw [eF]; exact decide_eq_decide.mpr ⟨fun h => h.2.2, fun h => ⟨hx, (fun h => by cases h), h⟩⟩)
    · subst h2
      rw [if_pos rfl] at eY
      refine ks_aload_n dX3_takeKey_114 rfl rfl ?_
      refine ks_getf (T := TX3) (kf := 0) kx_535 rfl in_X3 cl_X3 (by decide) C5.1 rfl dX3_takeKey_115 rfl ?_
      refine ks_bipush (x := nI 99) dX3_takeKey_118 (by decide) rfl ?_
      refine ks_aload_n dX3_takeKey_120 rfl rfl ?_
      refine ks_iload_n dX3_takeKey_121 rfl rfl ?_
      refine ks_bipush (x := nI 33) dX3_takeKey_122 (by decide) rfl ?_
      refine ks_addN dX3_takeKey_124 rfl ?_
      refine ks_callV (n := 3) (M' := mX5_load) (c_fd_load (d := d + 3) (o := 11) (i := i + 33) C5.2.1 (by decide) Y5 hg hN (by have := hic.2 rfl; omega) hy16) C5.2.1.1 cl_X5 rfl kx_1365 kx_1366 kx_1367 kx_5 kx_1368 (by decide +kernel) rfl (by decide) (Nat.le_of_ble_eq_true rfl) rfl dX3_takeKey_125 rfl (fun z6 T6 y6 => ?_)
      obtain ⟨rfl, u6, f6⟩ := y6
      rw [hk33] at f6
      have C6 := C5.of u6 f6 (va_up_ne _ _ (by decide))
      have x6 : va_up F5 11 k33 11 = k33 := va_up_self _ _ _
      have j6 : ∀ j, j ≠ 11 → va_up F5 11 k33 j = F5 j := fun j h => va_up_ne _ _ h
      generalize va_up F5 11 k33 = F6 at *
      refine ks_aload_n dX3_takeKey_128 rfl rfl ?_
      refine ks_getf (T := TX3) (kf := 0) kx_535 rfl in_X3 cl_X3 (by decide) C6.1 rfl dX3_takeKey_129 rfl ?_
      refine ks_bipush (x := nI 99) dX3_takeKey_132 (by decide) rfl ?_
      refine ks_aload_n dX3_takeKey_134 rfl rfl ?_
      refine ks_getf (T := TX3) (kf := 0) kx_535 rfl in_X3 cl_X3 (by decide) C6.1 rfl dX3_takeKey_135 rfl ?_
      refine ks_getf (T := TX5) (kf := 1) kx_124 rfl in_X5 cl_X5 (by decide) C6.2.1.1 rfl dX3_takeKey_138 rfl ?_
      refine ks_callV (n := 2) (M' := mX5_isBelow) (c_fd_isBelow (d := d + 3) (x := 11) (y := 100) C6.2.1 (by decide) (by decide)) C6.2.1.1 cl_X5 rfl kx_1617 kx_1202 kx_1203 kx_5 kx_1204 (by decide +kernel) rfl (by decide) (Nat.le_of_ble_eq_true rfl) rfl dX3_takeKey_141 rfl (fun z7 T7 y7 => ?_)
      obtain ⟨rfl, hT⟩ := y7
      obtain rfl := hT.symm
      rw [x6, C6.2.2]
      refine ks_if_neZ (tgt := 196) dX3_takeKey_144 (by decide) rfl (fun h3 => ?_) (fun h3 => ?_)
      · have h4 := of_decide_eq_true h3
        rw [eY] at eF ⊢
        refine l_tk196 (t0 := t0) (uu.trans u6) C6 ((j6 0 (by decide)).trans s5) ((j6 10 (by decide)).trans (x5.trans hkx.symm)) x6 (by omega) (fun j h1 h2 => (j6 j (by omega)).trans ((j5 j (by omega)).trans (j1 j (by omega)))) (by rw [eF]; exact decide_eq_decide.mpr ⟨fun h => h.2.2, fun h => ⟨hx, fun _ => h4, h⟩⟩)
      · refine ks_iconst (x := nI 0) dX3_takeKey_147 (by decide) rfl ?_
        refine ks_zret rfl rfl dX3_takeKey_148 ?_
        have e9 : FF = false := by rw [eF]; exact decide_eq_false (fun h => absurd (h.2.1 rfl) (of_decide_eq_false h3))
        subst e9
        exact ⟨rfl, (uu.trans u6), F6, C6, fun j h1 h2 => (j6 j (by omega)).trans ((j5 j (by omega)).trans (j1 j (by omega))), fun h => by cases h⟩
  · refine ks_iconst (x := nI 0) dX3_takeKey_79 (by decide) rfl ?_
    refine ks_zret rfl rfl dX3_takeKey_80 ?_
    have e9 : FF = false := by rw [eF]; exact decide_eq_false (fun h => absurd h.1 (of_decide_eq_false h1))
    subst e9
    exact ⟨rfl, u1, F1, C1, fun j h1 h2 => j1 j (by omega), fun h => by cases h⟩
set_option maxRecDepth 100000 in
set_option maxHeartbeats 800000 in
theorem c_cv_takeKey {l : Launch} {G : ks_G} {d : Nat} {S : ks_S} {ir : Bool} {R g : Nat → Nat} {y N i c : Nat} (hC : cvX S ir R) (h7 : R 6 = 7) (hK : ks_stOK S) (hy : S.2.2 y = some (kB N g)) (hg : kO g) (hN : N < 2 ^ 20) (hi : i + c ≤ N) (hy14 : y ≠ 14) (hy15 : y ≠ 15) (hy16 : y ≠ 16) : ks_P l G yX3_takeKey mX3_takeKey (d + 4) [.ref 14, .ref y, .int (nI i), .int (nI c)] S (fun z S' => z = some (.int (ks_bo (kyF g i c))) ∧ ks_up S S' [16] ∧ ∃ R2, cvX S' ir R2 ∧ (∀ j, 6 ≤ j → j < 10 ∨ 13 ≤ j → R2 j = R j) ∧ ((kyF g i c) = true → R2 10 = beN g (i + 1) ∧ R2 11 = (kyY g i c) ∧ R2 12 = 1)) := by
  refine ks_of (by decide) rfl rfl (Nat.le_of_ble_eq_true rfl) ?_
  show ks_X l G mX3_takeKey (d + 4) 0 [(0, .ref 14), (1, .ref y), (2, .int (nI i)), (3, .int (nI c))] [] S _
  refine ks_iload_n dX3_takeKey_0 rfl rfl ?_
  refine ks_bipush (x := nI 65) dX3_takeKey_1 (by decide) rfl ?_
  refine ks_icmp_neN (tgt := 17) (by omega) (by decide) dX3_takeKey_3 (by decide) rfl (fun hc3 => ?_) (fun hc3 => ?_)
  · refine ks_iconst (x := nI 0) dX3_takeKey_17 (by decide) rfl ?_
    refine ks_istore dX3_takeKey_18 (by decide) rfl ?_
    refine ks_sub [(4, _), (0, _), (1, _), (2, _), (3, _)] rfl ?_
    refine ks_iload dX3_takeKey_20 rfl rfl ?_
    refine ks_if_neN (tgt := 47) (by decide) dX3_takeKey_22 (by decide) rfl (fun hc22 => ?_) (fun hc22 => ?_)
    · exact absurd hc22 (by decide)
    · refine ks_iload_n dX3_takeKey_25 rfl rfl ?_
      refine ks_bipush (x := nI 33) dX3_takeKey_26 (by decide) rfl ?_
      refine ks_icmp_neN (tgt := 45) (by omega) (by decide) dX3_takeKey_28 (by decide) rfl (fun hc28 => ?_) (fun hc28 => ?_)
      · refine ks_iconst (x := nI 0) dX3_takeKey_45 (by decide) rfl ?_
        refine ks_zret rfl rfl dX3_takeKey_46 ?_
        have e9 : kyF g i c = false := decide_eq_false (fun h => by
          obtain ⟨h1, -⟩ := h
          unfold kyW at h1
          rw [decide_eq_true_eq] at h1
          omega)
        rw [e9]
        exact ⟨rfl, ks_up.rf _ _, R, hC, fun _ _ _ => rfl, fun h => by cases h⟩
      · refine ks_aload_n dX3_takeKey_31 rfl rfl ?_
        refine ks_iload_n dX3_takeKey_32 rfl rfl ?_
        refine ks_baldB (i := i) hy rfl (by omega) (by omega) dX3_takeKey_33 rfl ?_
        refine ks_iconst (x := nI 2) dX3_takeKey_34 (by decide) rfl ?_
        refine ks_icmp_eqYN (tgt := 47) (hg _) (by decide) dX3_takeKey_35 (by decide) rfl (fun hc35 => ?_) (fun hc35 => ?_)
        · refine ks_sub [(0, _), (1, _), (2, _), (3, _), (4, .int (ks_bo false))] rfl (l_tk47 hC h7 hK hy hg hN hi hy14 hy15 hy16 ?_ ?_)
          · exact (decide_eq_false (show ¬ (c = 65 ∧ g i = 4) by omega)).symm
          · exact Or.inr (by omega)
        · refine ks_aload_n dX3_takeKey_38 rfl rfl ?_
          refine ks_iload_n dX3_takeKey_39 rfl rfl ?_
          refine ks_baldB (i := i) hy rfl (by omega) (by omega) dX3_takeKey_40 rfl ?_
          refine ks_iconst (x := nI 3) dX3_takeKey_41 (by decide) rfl ?_
          refine ks_icmp_eqYN (tgt := 47) (hg _) (by decide) dX3_takeKey_42 (by decide) rfl (fun hc42 => ?_) (fun hc42 => ?_)
          · refine ks_sub [(0, _), (1, _), (2, _), (3, _), (4, .int (ks_bo false))] rfl (l_tk47 hC h7 hK hy hg hN hi hy14 hy15 hy16 ?_ ?_)
            · exact (decide_eq_false (show ¬ (c = 65 ∧ g i = 4) by omega)).symm
            · exact Or.inr (by omega)
          · refine ks_iconst (x := nI 0) dX3_takeKey_45 (by decide) rfl ?_
            refine ks_zret rfl rfl dX3_takeKey_46 ?_
            have e9 : kyF g i c = false := decide_eq_false (fun h => by
              obtain ⟨h1, -⟩ := h
              unfold kyW at h1
              rw [decide_eq_true_eq] at h1
              omega)
            rw [e9]
            exact ⟨rfl, ks_up.rf _ _, R, hC, fun _ _ _ => rfl, fun h => by cases h⟩
  · refine ks_aload_n dX3_takeKey_6 rfl rfl ?_
    refine ks_iload_n dX3_takeKey_7 rfl rfl ?_
    refine ks_baldB (i := i) hy rfl (by omega) (by omega) dX3_takeKey_8 rfl ?_
    refine ks_iconst (x := nI 4) dX3_takeKey_9 (by decide) rfl ?_
    refine ks_icmp_neYN (tgt := 17) (hg _) (by decide) dX3_takeKey_10 (by decide) rfl (fun hc10 => ?_) (fun hc10 => ?_)
    · refine ks_iconst (x := nI 0) dX3_takeKey_17 (by decide) rfl ?_
      refine ks_istore dX3_takeKey_18 (by decide) rfl ?_
      refine ks_sub [(4, _), (0, _), (1, _), (2, _), (3, _)] rfl ?_
      refine ks_iload dX3_takeKey_20 rfl rfl ?_
      refine ks_if_neN (tgt := 47) (by decide) dX3_takeKey_22 (by decide) rfl (fun hc22 => ?_) (fun hc22 => ?_)
      · exact absurd hc22 (by decide)
      · refine ks_iload_n dX3_takeKey_25 rfl rfl ?_
        refine ks_bipush (x := nI 33) dX3_takeKey_26 (by decide) rfl ?_
        refine ks_icmp_neN (tgt := 45) (by omega) (by decide) dX3_takeKey_28 (by decide) rfl (fun hc28 => ?_) (fun hc28 => ?_)
        · refine ks_iconst (x := nI 0) dX3_takeKey_45 (by decide) rfl ?_
          refine ks_zret rfl rfl dX3_takeKey_46 ?_
          have e9 : kyF g i c = false := decide_eq_false (fun h => by
            obtain ⟨h1, -⟩ := h
            unfold kyW at h1
            rw [decide_eq_true_eq] at h1
            omega)
          rw [e9]
          exact ⟨rfl, ks_up.rf _ _, R, hC, fun _ _ _ => rfl, fun h => by cases h⟩
        · refine ks_aload_n dX3_takeKey_31 rfl rfl ?_
          refine ks_iload_n dX3_takeKey_32 rfl rfl ?_
          refine ks_baldB (i := i) hy rfl (by omega) (by omega) dX3_takeKey_33 rfl ?_
          refine ks_iconst (x := nI 2) dX3_takeKey_34 (by decide) rfl ?_
          refine ks_icmp_eqYN (tgt := 47) (hg _) (by decide) dX3_takeKey_35 (by decide) rfl (fun hc35 => ?_) (fun hc35 => ?_)
          · refine ks_sub [(0, _), (1, _), (2, _), (3, _), (4, .int (ks_bo false))] rfl (l_tk47 hC h7 hK hy hg hN hi hy14 hy15 hy16 ?_ ?_)
            · exact (decide_eq_false (show ¬ (c = 65 ∧ g i = 4) by omega)).symm
            · exact Or.inr (by omega)
          · refine ks_aload_n dX3_takeKey_38 rfl rfl ?_
            refine ks_iload_n dX3_takeKey_39 rfl rfl ?_
            refine ks_baldB (i := i) hy rfl (by omega) (by omega) dX3_takeKey_40 rfl ?_
            refine ks_iconst (x := nI 3) dX3_takeKey_41 (by decide) rfl ?_
            refine ks_icmp_eqYN (tgt := 47) (hg _) (by decide) dX3_takeKey_42 (by decide) rfl (fun hc42 => ?_) (fun hc42 => ?_)
            · refine ks_sub [(0, _), (1, _), (2, _), (3, _), (4, .int (ks_bo false))] rfl (l_tk47 hC h7 hK hy hg hN hi hy14 hy15 hy16 ?_ ?_)
              · exact (decide_eq_false (show ¬ (c = 65 ∧ g i = 4) by omega)).symm
              · exact Or.inr (by omega)
            · refine ks_iconst (x := nI 0) dX3_takeKey_45 (by decide) rfl ?_
              refine ks_zret rfl rfl dX3_takeKey_46 ?_
              have e9 : kyF g i c = false := decide_eq_false (fun h => by
                obtain ⟨h1, -⟩ := h
                unfold kyW at h1
                rw [decide_eq_true_eq] at h1
                omega)
              rw [e9]
              exact ⟨rfl, ks_up.rf _ _, R, hC, fun _ _ _ => rfl, fun h => by cases h⟩
    · refine ks_iconst (x := nI 1) dX3_takeKey_13 (by decide) rfl ?_
      refine ks_goto (tgt := 18) dX3_takeKey_14 (by decide) ?_
      refine ks_istore dX3_takeKey_18 (by decide) rfl ?_
      refine ks_sub [(4, _), (0, _), (1, _), (2, _), (3, _)] rfl ?_
      refine ks_iload dX3_takeKey_20 rfl rfl ?_
      refine ks_if_neN (tgt := 47) (by decide) dX3_takeKey_22 (by decide) rfl (fun hc22 => ?_) (fun hc22 => ?_)
      · refine ks_sub [(0, _), (1, _), (2, _), (3, _), (4, .int (ks_bo true))] rfl (l_tk47 hC h7 hK hy hg hN hi hy14 hy15 hy16 ?_ ?_)
        · exact (decide_eq_true (show c = 65 ∧ g i = 4 by omega)).symm
        · exact Or.inl rfl
      · exact absurd hc22 (by decide)
