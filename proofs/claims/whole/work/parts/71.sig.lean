/-! CURVE: numbers of signatures, written and taken -/
theorem neg_lt {a b : Nat} (h : a < b) (hb : b < 2 ^ 30) : nI a - nI b < nI 1 := by
  have e : nI a - nI b = Int32.ofInt ((a : Int) - b) := (Int32.ofInt_sub a b).symm
  rw [e, Int32.lt_iff_toInt_lt, Int32.toInt_ofInt_of_le (by omega) (by omega)]
  rw [show (nI 1).toInt = 1 from rfl]
  omega
def fzN (f : Nat → Nat) : Nat → Nat → Nat
  | 0, j => j
  | n + 1, j => if f j = 0 then fzN f n (j + 1) else j
theorem fzN_b (f : Nat → Nat) : ∀ n j, j ≤ fzN f n j ∧ fzN f n j ≤ j + n
  | 0, j => ⟨Nat.le_refl _, Nat.le_refl _⟩
  | n + 1, j => by
    unfold fzN
    split
    · have := fzN_b f n (j + 1)
      omega
    · omega
theorem fzN_congr {f g : Nat → Nat} : ∀ {n j : Nat}, (∀ k, k < j + n → f k = g k) → fzN f n j = fzN g n j
  | 0, j, _ => rfl
  | n + 1, j, h => by
    unfold fzN
    rw [h j (by omega), fzN_congr (n := n) (j := j + 1) (fun k hk => h k (by omega))]
/-- 32 bytes of a number, the highest first -/
def beB (V : Nat) : Nat → Nat := fun j => V / 2 ^ (8 * (31 - j)) % 256
def derB (V : Nat) : List Nat := [2, 32 - fzN (beB V) 31 0 + (if 128 ≤ beB V (fzN (beB V) 31 0) then 1 else 0)] ++ List.replicate (if 128 ≤ beB V (fzN (beB V) 31 0) then 1 else 0) 0 ++ bytL (beB V) (fzN (beB V) 31 0) (32 - fzN (beB V) 31 0)
theorem num1 {k : Nat} (h : k < 256) : numL (lN k) 1 = [k] := by
  unfold numL
  rw [show List.range 1 = [0] from rfl]
  simp only [List.map_cons, List.map_nil, Nat.pow_zero, Nat.div_one]
  rw [lN_nat (by omega), Nat.mod_eq_of_lt h]
theorem num0 {k : Nat} (h : k ≤ 1) : numL (lN 0) k = List.replicate k 0 := by
  rcases (show k = 0 ∨ k = 1 by omega) with rfl | rfl
  · rfl
  · exact num1 (by decide)
theorem derB_len (V : Nat) : (derB V).length ≤ 35 := by
  unfold derB
  simp only [List.length_append, List.length_replicate, bytL_len, List.length_cons, List.length_nil]
  split <;> omega
set_option maxRecDepth 100000 in
set_option maxHeartbeats 800000 in
theorem c_cv_writeDer {l : Launch} {G : ks_G} {d : Nat} {S : ks_S} {ir : Bool} {Q rw_ : Nat → Nat} {x a b N : Nat} {m : List Nat} (hO : S.2.2 14 = some (cvO ir)) (hQ : scX S Q) (hW : S.2.2 19 = some (kB 64 rw_)) (hrw : kO rw_) (hB : bfS S b a N (some m)) (hN : N < 2 ^ 31) (hm : m.length + 40 ≤ N) (hx : x < 5) (hb9 : b < 14 ∨ 19 < b) (ha9 : a < 14 ∨ 19 < a) : ks_P l G yX3_writeDerNumber mX3_writeDerNumber (d + 2) [.ref 14, .int (nI (9 * x)), .ref b] S (fun z S' => z = none ∧ ks_up S S' [19, a, b] ∧ (∃ r2, kO r2 ∧ S'.2.2 19 = some (kB 64 r2)) ∧ bfS S' b a N (some (m ++ derB (Q x)))) := by
  refine ks_of (by decide) rfl rfl (Nat.le_of_ble_eq_true rfl) ?_
  show ks_X l G mX3_writeDerNumber (d + 2) 0 [(0, .ref 14), (1, .int (nI (9 * x))), (2, .ref b)] [] S _
  refine ks_aload_n dX3_writeDerNumber_0 rfl rfl ?_
  refine ks_getf (T := TX3) (kf := 1) kx_536 rfl in_X3 cl_X3 (by decide) hO rfl dX3_writeDerNumber_1 rfl ?_
  refine ks_iload_n dX3_writeDerNumber_4 rfl rfl ?_
  refine ks_aload_n dX3_writeDerNumber_5 rfl rfl ?_
  refine ks_getf (T := TX3) (kf := 2) kx_537 rfl in_X3 cl_X3 (by decide) hO rfl dX3_writeDerNumber_6 rfl ?_
  refine ks_iconst (x := nI 0) dX3_writeDerNumber_9 (by decide) rfl ?_
  refine ks_callV (n := 3) (M' := mX5_store) (c_fd_store (d := d) (x := x) (i := 0) hQ.1 (by omega) hW (by decide) (by decide) (by decide) (by decide)) hQ.1.1 cl_X5 rfl kx_1210 kx_1211 kx_1212 kx_5 kx_1213 (by decide +kernel) rfl (by decide) (Nat.le_of_ble_eq_true rfl) rfl dX3_writeDerNumber_10 rfl (fun z1 T1 y1 => ?_)
  obtain ⟨rfl, u1, W1⟩ := y1
  have O1 := u1.at hO (by decide)
  have B1 := hB.up u1 (by simp only [List.mem_cons, List.not_mem_nil, or_false]; omega) (by simp only [List.mem_cons, List.not_mem_nil, or_false]; omega)
  have kF : kO (stB (Q x) rw_ 0 32) := kO_st hrw 0 32
  have eF : ∀ j, j < 32 → stB (Q x) rw_ 0 32 j = beB (Q x) j := fun j hj => by
    unfold stB beB
    rw [if_pos (by omega), show 0 + 31 - j = 31 - j by omega]
  generalize stB (Q x) rw_ 0 32 = F at *
  have bb : b ∉ ([19] : List Nat) := by simp only [List.mem_cons, List.not_mem_nil, or_false]; omega
  obtain ⟨p, hp⟩ : ∃ p, fzN (beB (Q x)) 31 0 = p := ⟨_, rfl⟩
  have hp31 : p ≤ 31 := by have := fzN_b (beB (Q x)) 31 0; omega
  have hpF : fzN F 31 0 = p := (fzN_congr (fun k hk => eF k (by omega))).trans hp
  obtain ⟨fr, hfr⟩ : ∃ fr, (if 128 ≤ beB (Q x) p then 1 else 0) = fr := ⟨_, rfl⟩
  have eD : derB (Q x) = [2, 32 - p + fr] ++ List.replicate fr 0 ++ bytL F p (32 - p) := by
    unfold derB
    rw [hp, hfr]
    congr 1
    exact bytL_congr (fun k hk => (eF _ (by omega)).symm)
  have fr1 : fr ≤ 1 := by rw [← hfr]; split <;> omega
  rw [eD]
  have rest : ks_X l G mX3_writeDerNumber (d + 2) 50 [(0, .ref 14), (1, .int (nI (9 * x))), (2, .ref b), (3, .int (nI p))] [.int (nI fr)] T1 (fun z S' => z = none ∧ ks_up S S' [19, a, b] ∧ (∃ r2, kO r2 ∧ S'.2.2 19 = some (kB 64 r2)) ∧ bfS S' b a N (some (m ++ ([2, 32 - p + fr] ++ List.replicate fr 0 ++ bytL F p (32 - p))))) := by
    refine ks_istore dX3_writeDerNumber_50 (by decide) rfl ?_
    refine ks_sub [(4, _), (0, _), (1, _), (2, _), (3, _)] rfl ?_
    refine ks_aload_n dX3_writeDerNumber_52 rfl rfl ?_
    refine ks_ldc2 dX3_writeDerNumber_53 kx_1384 rfl ?_
    refine ks_tl (y := lN 2) rfl ?_
    refine ks_iconst (x := nI 1) dX3_writeDerNumber_56 (by decide) rfl ?_
    obtain ⟨l1, g1, i1, j1, k1, ob1, m1⟩ := id B1
    refine ks_callV (n := 2) (M' := mX1_addNumber) (bf_number (d := d + 1) (v := lN 2) (sz := 1) B1 hN (by decide)) ob1 cl_X1 rfl kx_1216 kx_829 kx_830 kx_2 kx_831 (by decide +kernel) rfl (by decide) (Nat.le_of_ble_eq_true rfl) rfl dX3_writeDerNumber_57 rfl (fun z2 T2 y2 => ?_)
    obtain ⟨rfl, u2, B2⟩ := y2
    have O2 := u2.at O1 (by simp only [List.mem_cons, List.not_mem_nil, or_false]; omega)
    have W2 := u2.at W1 (by simp only [List.mem_cons, List.not_mem_nil, or_false]; omega)
    rw [num1 (by decide), bfA_fit (by simp only [List.length_cons, List.length_nil]; omega)] at B2
    refine ks_aload_n dX3_writeDerNumber_60 rfl rfl ?_
    refine ks_bipush (x := nI 32) dX3_writeDerNumber_61 (by decide) rfl ?_
    refine ks_iload_n dX3_writeDerNumber_63 rfl rfl ?_
    refine ks_subN (by omega) dX3_writeDerNumber_64 rfl ?_
    refine ks_iload dX3_writeDerNumber_65 rfl rfl ?_
    refine ks_addN dX3_writeDerNumber_67 rfl ?_
    refine ks_i2lN (by omega) dX3_writeDerNumber_68 rfl ?_
    refine ks_iconst (x := nI 1) dX3_writeDerNumber_69 (by decide) rfl ?_
    obtain ⟨l2, g2, i2, j2, k2, ob2, m2⟩ := id B2
    refine ks_callV (n := 2) (M' := mX1_addNumber) (bf_number (d := d + 1) (v := lN (32 - p + fr)) (sz := 1) B2 hN (by decide)) ob2 cl_X1 rfl kx_1216 kx_829 kx_830 kx_2 kx_831 (by decide +kernel) rfl (by decide) (Nat.le_of_ble_eq_true rfl) rfl dX3_writeDerNumber_70 rfl (fun z3 T3 y3 => ?_)
    obtain ⟨rfl, u3, B3⟩ := y3
    have O3 := u3.at O2 (by simp only [List.mem_cons, List.not_mem_nil, or_false]; omega)
    have W3 := u3.at W2 (by simp only [List.mem_cons, List.not_mem_nil, or_false]; omega)
    rw [num1 (by omega), bfA_fit (by simp only [List.length_append, List.length_cons, List.length_nil]; omega)] at B3
    refine ks_aload_n dX3_writeDerNumber_73 rfl rfl ?_
    refine ks_lconst (x := lN 0) dX3_writeDerNumber_74 (by decide) rfl ?_
    refine ks_iload dX3_writeDerNumber_75 rfl rfl ?_
    obtain ⟨l3, g3, i3, j3, k3, ob3, m3⟩ := id B3
    refine ks_callV (n := 2) (M' := mX1_addNumber) (bf_number (d := d + 1) (v := lN 0) (sz := fr) B3 hN (by omega)) ob3 cl_X1 rfl kx_1216 kx_829 kx_830 kx_2 kx_831 (by decide +kernel) rfl (by decide) (Nat.le_of_ble_eq_true rfl) rfl dX3_writeDerNumber_77 rfl (fun z4 T4 y4 => ?_)
    obtain ⟨rfl, u4, B4⟩ := y4
    have O4 := u4.at O3 (by simp only [List.mem_cons, List.not_mem_nil, or_false]; omega)
    have W4 := u4.at W3 (by simp only [List.mem_cons, List.not_mem_nil, or_false]; omega)
    rw [num0 fr1, bfA_fit (by simp only [List.length_append, List.length_cons, List.length_nil, List.length_replicate]; omega)] at B4
    refine ks_aload_n dX3_writeDerNumber_80 rfl rfl ?_
    refine ks_aload_n dX3_writeDerNumber_81 rfl rfl ?_
    refine ks_getf (T := TX3) (kf := 2) kx_537 rfl in_X3 cl_X3 (by decide) O4 rfl dX3_writeDerNumber_82 rfl ?_
    refine ks_iload_n dX3_writeDerNumber_85 rfl rfl ?_
    refine ks_bipush (x := nI 32) dX3_writeDerNumber_86 (by decide) rfl ?_
    refine ks_iload_n dX3_writeDerNumber_88 rfl rfl ?_
    refine ks_subN (by omega) dX3_writeDerNumber_89 rfl ?_
    obtain ⟨l4, g4, i4, j4, k4, ob4, m4⟩ := id B4
    refine ks_callV (n := 3) (M' := mX1_addBytes) (bf_bytes (d := d) (i := p) (n := 32 - p) B4 hN W4 kF (by omega) (by decide)) ob4 cl_X1 rfl kx_1217 kx_872 kx_873 kx_2 kx_874 (by decide +kernel) rfl (by decide) (Nat.le_of_ble_eq_true rfl) rfl dX3_writeDerNumber_90 rfl (fun z5 T5 y5 => ?_)
    obtain ⟨rfl, u5, B5⟩ := y5
    have O5 := u5.at O4 (by simp only [List.mem_cons, List.not_mem_nil, or_false]; omega)
    have W5 := u5.at W4 (by simp only [List.mem_cons, List.not_mem_nil, or_false]; omega)
    rw [bfA_fit (by simp only [List.length_append, List.length_cons, List.length_nil, List.length_replicate, bytL_len]; omega)] at B5
    refine ks_ret rfl dX3_writeDerNumber_93 ?_
    have s0 : ∀ q, q ∈ [19] → q ∈ [19, a, b] := by intro q hq; simp only [List.mem_cons, List.not_mem_nil, or_false] at hq ⊢; omega
    have s1 : ∀ q, q ∈ [a, b] → q ∈ [19, a, b] := by intro q hq; simp only [List.mem_cons, List.not_mem_nil, or_false] at hq ⊢; omega
    refine ⟨rfl, (u1.mono s0).trans ((u2.mono s1).trans ((u3.mono s1).trans ((u4.mono s1).trans (u5.mono s1)))), ⟨F, kF, W5⟩, ?_⟩
    have e9 : m ++ ([2, 32 - p + fr] ++ List.replicate fr 0 ++ bytL F p (32 - p)) = m ++ [2] ++ [32 - p + fr] ++ List.replicate fr 0 ++ bytL F p (32 - p) := by
      simp only [List.append_assoc, List.cons_append, List.nil_append]
    rw [e9]
    exact B5
  have r36 : ks_X l G mX3_writeDerNumber (d + 2) 36 [(0, .ref 14), (1, .int (nI (9 * x))), (2, .ref b), (3, .int (nI p))] [] T1 (fun z S' => z = none ∧ ks_up S S' [19, a, b] ∧ (∃ r2, kO r2 ∧ S'.2.2 19 = some (kB 64 r2)) ∧ bfS S' b a N (some (m ++ ([2, 32 - p + fr] ++ List.replicate fr 0 ++ bytL F p (32 - p))))) := by
    refine ks_aload_n dX3_writeDerNumber_36 rfl rfl ?_
    refine ks_getf (T := TX3) (kf := 2) kx_537 rfl in_X3 cl_X3 (by decide) O1 rfl dX3_writeDerNumber_37 rfl ?_
    refine ks_iload_n dX3_writeDerNumber_40 rfl rfl ?_
    refine ks_baldB (i := p) W1 rfl (by omega) (by decide) dX3_writeDerNumber_41 rfl ?_
    refine ks_if_geY (tgt := 49) (kF _) dX3_writeDerNumber_42 (by decide) rfl (fun h1 => ?_) (fun h1 => ?_)
    · refine ks_iconst (x := nI 0) dX3_writeDerNumber_49 (by decide) rfl ?_
      have e8 : 0 = fr := by rw [← hfr, ← eF p (by omega)]; split <;> omega
      exact ks_ti (congrArg nI e8) rest
    · refine ks_iconst (x := nI 1) dX3_writeDerNumber_45 (by decide) rfl ?_
      refine ks_goto (tgt := 50) dX3_writeDerNumber_46 (by decide) ?_
      have e8 : 1 = fr := by rw [← hfr, ← eF p (by omega)]; split <;> omega
      exact ks_ti (congrArg nI e8) rest
  have loop : ∀ n j, j + n = 31 → fzN F n j = p → ks_X l G mX3_writeDerNumber (d + 2) 15 [(0, .ref 14), (1, .int (nI (9 * x))), (2, .ref b), (3, .int (nI j))] [] T1 (fun z S' => z = none ∧ ks_up S S' [19, a, b] ∧ (∃ r2, kO r2 ∧ S'.2.2 19 = some (kB 64 r2)) ∧ bfS S' b a N (some (m ++ ([2, 32 - p + fr] ++ List.replicate fr 0 ++ bytL F p (32 - p))))) := by
    intro n
    induction n with
    | zero =>
      intro j hj hz
      refine ks_iload_n dX3_writeDerNumber_15 rfl rfl ?_
      refine ks_bipush (x := nI 31) dX3_writeDerNumber_16 (by decide) rfl ?_
      refine ks_icmp_geN (tgt := 36) (by omega) (by decide) dX3_writeDerNumber_18 (by decide) rfl (fun h1 => ?_) (fun h1 => ?_)
      · obtain rfl : j = p := hz
        exact r36
      · omega
    | succ n ih =>
      intro j hj hz
      refine ks_iload_n dX3_writeDerNumber_15 rfl rfl ?_
      refine ks_bipush (x := nI 31) dX3_writeDerNumber_16 (by decide) rfl ?_
      refine ks_icmp_geN (tgt := 36) (by omega) (by decide) dX3_writeDerNumber_18 (by decide) rfl (fun h1 => ?_) (fun h1 => ?_)
      · omega
      · refine ks_aload_n dX3_writeDerNumber_21 rfl rfl ?_
        refine ks_getf (T := TX3) (kf := 2) kx_537 rfl in_X3 cl_X3 (by decide) O1 rfl dX3_writeDerNumber_22 rfl ?_
        refine ks_iload_n dX3_writeDerNumber_25 rfl rfl ?_
        refine ks_baldB (i := j) W1 rfl (by omega) (by decide) dX3_writeDerNumber_26 rfl ?_
        refine ks_if_neY (tgt := 36) (kF _) dX3_writeDerNumber_27 (by decide) rfl (fun h2 => ?_) (fun h2 => ?_)
        · rw [fzN, if_neg h2] at hz
          obtain rfl : j = p := hz
          exact r36
        · refine ks_incN (c := 1) (e := j + 1) dX3_writeDerNumber_30 rfl (by decide) rfl (by decide) rfl ?_
          refine ks_sub [(3, _), (0, _), (1, _), (2, _)] rfl ?_
          refine ks_goto (tgt := 15) dX3_writeDerNumber_33 (by decide) ?_
          rw [fzN, if_pos h2] at hz
          exact ks_sub [(0, _), (1, _), (2, _), (3, _)] rfl (ih (j + 1) (by omega) hz)
  refine ks_iconst (x := nI 0) dX3_writeDerNumber_13 (by decide) rfl ?_
  refine ks_istore_n dX3_writeDerNumber_14 (by decide) rfl ?_
  refine ks_sub [(3, _), (0, _), (1, _), (2, _)] rfl ?_
  exact ks_sub [(0, _), (1, _), (2, _), (3, _)] rfl (loop 31 0 rfl hpF)
/-- strict DER and a byte more -/
def sgF (g : Nat → Nat) (i c : Nat) : Bool := decide (9 ≤ c ∧ c ≤ 73 ∧ g i = 48 ∧ g (i + 1) = c - 3 ∧ g (i + 3) + 8 ≤ c ∧ g (i + 5 + g (i + 3)) = c - 7 - g (i + 3) ∧ derN g (i + 2) (g (i + 3)) = true ∧ derN g (i + 4 + g (i + 3)) (c - 7 - g (i + 3)) = true)
def sgr (g : Nat → Nat) (i : Nat) : Nat := beW g (i + 4) (g (i + 3))
def sgs (g : Nat → Nat) (i c : Nat) : Nat := beW g (i + 6 + g (i + 3)) (c - 7 - g (i + 3))
def inN (v : Nat) : Bool := decide (0 < v ∧ v < nN)
set_option maxRecDepth 100000 in
set_option maxHeartbeats 800000 in
theorem c_cv_takeSignature {l : Launch} {G : ks_G} {d : Nat} {S : ks_S} {ir : Bool} {Q rw_ g : Nat → Nat} {y N i c : Nat} (hO : S.2.2 14 = some (cvO ir)) (hQ : scX S Q) (hW : S.2.2 19 = some (kB 64 rw_)) (hrw : kO rw_) (hy : S.2.2 y = some (kB N g)) (hg : kO g) (hN : N < 2 ^ 20) (hi : i + c ≤ N) (hy14 : y ≠ 14) (hy18 : y ≠ 18) (hy19 : y ≠ 19) : ks_P l G yX3_takeSignature mX3_takeSignature (d + 3) [.ref 14, .ref y, .int (nI i), .int (nI c)] S (fun z S' => z = some (.int (ks_bo (sgF g i c))) ∧ ks_up S S' [14, 18, 19] ∧ ∃ ir2 Q2 r2, S'.2.2 14 = some (cvO ir2) ∧ scX S' Q2 ∧ kO r2 ∧ S'.2.2 19 = some (kB 64 r2) ∧ (∀ j, 2 ≤ j → Q2 j = Q j) ∧ (sgF g i c = true → ir2 = (inN (sgr g i) && inN (sgs g i c)) ∧ (ir2 = true → Q2 0 = sgr g i ∧ Q2 1 = sgs g i c))) := by
  have no : sgF g i c = false → ∃ ir2 Q2 r2, S.2.2 14 = some (cvO ir2) ∧ scX S Q2 ∧ kO r2 ∧ S.2.2 19 = some (kB 64 r2) ∧ (∀ j, 2 ≤ j → Q2 j = Q j) ∧ (sgF g i c = true → ir2 = (inN (sgr g i) && inN (sgs g i c)) ∧ (ir2 = true → Q2 0 = sgr g i ∧ Q2 1 = sgs g i c)) := fun h => ⟨ir, Q, rw_, hO, hQ, hrw, hW, fun _ _ => rfl, fun h2 => by rw [h] at h2; cases h2⟩
  refine ks_of (by decide) rfl rfl (Nat.le_of_ble_eq_true rfl) ?_
  show ks_X l G mX3_takeSignature (d + 3) 0 [(0, .ref 14), (1, .ref y), (2, .int (nI i)), (3, .int (nI c))] [] S _
  refine ks_iload_n dX3_takeSignature_0 rfl rfl ?_
  refine ks_bipush (x := nI 9) dX3_takeSignature_1 (by decide) rfl ?_
  refine ks_icmp_ltN (tgt := 35) (by omega) (by decide) dX3_takeSignature_3 (by decide) rfl (fun h1 => ?_) (fun h1 => ?_)
  · refine ks_iconst (x := nI 0) dX3_takeSignature_35 (by decide) rfl ?_
    refine ks_zret rfl rfl dX3_takeSignature_36 ?_
    have e9 : sgF g i c = false := decide_eq_false (fun h => by obtain ⟨a1, a2, a3, a4, a5, a6, a7, a8⟩ := h; omega)
    exact ⟨by rw [e9]; rfl, ks_up.rf _ _, no e9⟩
  · refine ks_iload_n dX3_takeSignature_6 rfl rfl ?_
    refine ks_bipush (x := nI 73) dX3_takeSignature_7 (by decide) rfl ?_
    refine ks_icmp_gtN (tgt := 35) (by omega) (by decide) dX3_takeSignature_9 (by decide) rfl (fun h2 => ?_) (fun h2 => ?_)
    · refine ks_iconst (x := nI 0) dX3_takeSignature_35 (by decide) rfl ?_
      refine ks_zret rfl rfl dX3_takeSignature_36 ?_
      have e9 : sgF g i c = false := decide_eq_false (fun h => by obtain ⟨a1, a2, a3, a4, a5, a6, a7, a8⟩ := h; omega)
      exact ⟨by rw [e9]; rfl, ks_up.rf _ _, no e9⟩
    · refine ks_aload_n dX3_takeSignature_12 rfl rfl ?_
      refine ks_iload_n dX3_takeSignature_13 rfl rfl ?_
      refine ks_baldB (i := i) hy rfl (by omega) (by omega) dX3_takeSignature_14 rfl ?_
      refine ks_bipush (x := nI 48) dX3_takeSignature_15 (by decide) rfl ?_
      refine ks_icmp_neYN (tgt := 35) (hg _) (by decide) dX3_takeSignature_17 (by decide) rfl (fun h3 => ?_) (fun h3 => ?_)
      · refine ks_iconst (x := nI 0) dX3_takeSignature_35 (by decide) rfl ?_
        refine ks_zret rfl rfl dX3_takeSignature_36 ?_
        have e9 : sgF g i c = false := decide_eq_false (fun h => by obtain ⟨a1, a2, a3, a4, a5, a6, a7, a8⟩ := h; omega)
        exact ⟨by rw [e9]; rfl, ks_up.rf _ _, no e9⟩
      · refine ks_aload_n dX3_takeSignature_20 rfl rfl ?_
        refine ks_iload_n dX3_takeSignature_21 rfl rfl ?_
        refine ks_iconst (x := nI 1) dX3_takeSignature_22 (by decide) rfl ?_
        refine ks_addN dX3_takeSignature_23 rfl ?_
        refine ks_baldB (i := i + 1) hy rfl (by omega) (by omega) dX3_takeSignature_24 rfl ?_
        refine ks_sipush (x := nI 255) dX3_takeSignature_25 (by decide) rfl ?_
        refine ks_andB (hg _) dX3_takeSignature_28 rfl ?_
        have hy28 : g (i + 1) < 256 := (hg _)
        refine ks_iload_n dX3_takeSignature_29 rfl rfl ?_
        refine ks_iconst (x := nI 3) dX3_takeSignature_30 (by decide) rfl ?_
        refine ks_subN (by omega) dX3_takeSignature_31 rfl ?_
        refine ks_icmp_eqN (tgt := 37) (by omega) (by omega) dX3_takeSignature_32 (by decide) rfl (fun h4 => ?_) (fun h4 => ?_)
        · have g3 := hg (i + 3)
          by_cases hrc : g (i + 3) + 7 ≤ c
          · refine ks_aload_n dX3_takeSignature_37 rfl rfl ?_
            refine ks_iload_n dX3_takeSignature_38 rfl rfl ?_
            refine ks_iconst (x := nI 3) dX3_takeSignature_39 (by decide) rfl ?_
            refine ks_addN dX3_takeSignature_40 rfl ?_
            refine ks_baldB (i := i + 3) hy rfl (by omega) (by omega) dX3_takeSignature_41 rfl ?_
            refine ks_sipush (x := nI 255) dX3_takeSignature_42 (by decide) rfl ?_
            refine ks_andB (hg _) dX3_takeSignature_45 rfl ?_
            have hy45 : g (i + 3) < 256 := (hg _)
            refine ks_istore dX3_takeSignature_46 (by decide) rfl ?_
            refine ks_sub [(4, _), (0, _), (1, _), (2, _), (3, _)] rfl ?_
            refine ks_iload_n dX3_takeSignature_48 rfl rfl ?_
            refine ks_bipush (x := nI 7) dX3_takeSignature_49 (by decide) rfl ?_
            refine ks_subN (by omega) dX3_takeSignature_51 rfl ?_
            refine ks_iload dX3_takeSignature_52 rfl rfl ?_
            refine ks_subN (by omega) dX3_takeSignature_54 rfl ?_
            refine ks_istore dX3_takeSignature_55 (by decide) rfl ?_
            refine ks_sub [(5, _), (0, _), (1, _), (2, _), (3, _), (4, _)] rfl ?_
            refine ks_iload dX3_takeSignature_57 rfl rfl ?_
            refine ks_iconst (x := nI 1) dX3_takeSignature_59 (by decide) rfl ?_
            refine ks_icmp_ltN (tgt := 80) (by omega) (by decide) dX3_takeSignature_60 (by decide) rfl (fun h5 => ?_) (fun h5 => ?_)
            · refine ks_iconst (x := nI 0) dX3_takeSignature_80 (by decide) rfl ?_
              refine ks_zret rfl rfl dX3_takeSignature_81 ?_
              have e9 : sgF g i c = false := decide_eq_false (fun h => by obtain ⟨a1, a2, a3, a4, a5, a6, a7, a8⟩ := h; omega)
              exact ⟨by rw [e9]; rfl, ks_up.rf _ _, no e9⟩
            · refine ks_aload_n dX3_takeSignature_63 rfl rfl ?_
              refine ks_iload_n dX3_takeSignature_64 rfl rfl ?_
              refine ks_iconst (x := nI 5) dX3_takeSignature_65 (by decide) rfl ?_
              refine ks_addN dX3_takeSignature_66 rfl ?_
              refine ks_iload dX3_takeSignature_67 rfl rfl ?_
              refine ks_addN dX3_takeSignature_69 rfl ?_
              refine ks_baldB (i := i + 5 + (g (i + 3))) hy rfl (by omega) (by omega) dX3_takeSignature_70 rfl ?_
              refine ks_sipush (x := nI 255) dX3_takeSignature_71 (by decide) rfl ?_
              refine ks_andB (hg _) dX3_takeSignature_74 rfl ?_
              have hy74 : g (i + 5 + (g (i + 3))) < 256 := (hg _)
              refine ks_iload dX3_takeSignature_75 rfl rfl ?_
              refine ks_icmp_eqN (tgt := 82) (by omega) (by omega) dX3_takeSignature_77 (by decide) rfl (fun h6 => ?_) (fun h6 => ?_)
              · refine ks_aload_n dX3_takeSignature_82 rfl rfl ?_
                refine ks_iload_n dX3_takeSignature_83 rfl rfl ?_
                refine ks_iconst (x := nI 2) dX3_takeSignature_84 (by decide) rfl ?_
                refine ks_addN dX3_takeSignature_85 rfl ?_
                refine ks_iload dX3_takeSignature_86 rfl rfl ?_
                refine ks_callS (n := 3) (M' := mX3_isDerNumber) (c_cv_isDer (d := d + 2) (i := i + 2) (c := g (i + 3)) hy hg hN (by omega) (by omega)) kx_1610 kx_1611 kx_4 kx_1612 (by decide +kernel) rfl (by decide) (Nat.le_of_ble_eq_true rfl) rfl dX3_takeSignature_88 rfl (fun z1 T1 y1 => ?_)
                obtain ⟨rfl, hT⟩ := y1
                obtain rfl := hT.symm
                refine ks_if_eqZ (tgt := 109) dX3_takeSignature_91 (by decide) rfl (fun h7 => ?_) (fun h7 => ?_)
                · refine ks_iconst (x := nI 0) dX3_takeSignature_109 (by decide) rfl ?_
                  refine ks_zret rfl rfl dX3_takeSignature_110 ?_
                  have e9 : sgF g i c = false := decide_eq_false (fun h => by obtain ⟨a1, a2, a3, a4, a5, a6, a7, a8⟩ := h; rw [h7] at a7; cases a7)
                  exact ⟨by rw [e9]; rfl, ks_up.rf _ _, no e9⟩
                · refine ks_aload_n dX3_takeSignature_94 rfl rfl ?_
                  refine ks_iload_n dX3_takeSignature_95 rfl rfl ?_
                  refine ks_iconst (x := nI 4) dX3_takeSignature_96 (by decide) rfl ?_
                  refine ks_addN dX3_takeSignature_97 rfl ?_
                  refine ks_iload dX3_takeSignature_98 rfl rfl ?_
                  refine ks_addN dX3_takeSignature_100 rfl ?_
                  refine ks_iload dX3_takeSignature_101 rfl rfl ?_
                  refine ks_callS (n := 3) (M' := mX3_isDerNumber) (c_cv_isDer (d := d + 2) (i := i + 4 + g (i + 3)) (c := c - 7 - g (i + 3)) hy hg hN (by omega) (by omega)) kx_1610 kx_1611 kx_4 kx_1612 (by decide +kernel) rfl (by decide) (Nat.le_of_ble_eq_true rfl) rfl dX3_takeSignature_103 rfl (fun z2 T2 y2 => ?_)
                  obtain ⟨rfl, hT⟩ := y2
                  obtain rfl := hT.symm
                  refine ks_if_neZ (tgt := 111) dX3_takeSignature_106 (by decide) rfl (fun h8 => ?_) (fun h8 => ?_)
                  · have e9 : sgF g i c = true := decide_eq_true ⟨by omega, by omega, by omega, by omega, by omega, by omega, h7, h8⟩
                    rw [e9]
                    refine ks_aload_n dX3_takeSignature_111 rfl rfl ?_
                    refine ks_aload_n dX3_takeSignature_112 rfl rfl ?_
                    refine ks_iconst (x := nI 0) dX3_takeSignature_113 (by decide) rfl ?_
                    refine ks_aload_n dX3_takeSignature_114 rfl rfl ?_
                    refine ks_iload_n dX3_takeSignature_115 rfl rfl ?_
                    refine ks_iconst (x := nI 4) dX3_takeSignature_116 (by decide) rfl ?_
                    refine ks_addN dX3_takeSignature_117 rfl ?_
                    refine ks_iload dX3_takeSignature_118 rfl rfl ?_
                    refine ks_callV (n := 4) (M' := mX3_takeNumber) (c_cv_takeNumber (d := d) (q := 0) (i := i + 4) (c := g (i + 3)) hO hQ hW hrw hy hg hN (by omega) (by decide) hy18 hy19) hO cl_X3 rfl kx_1613 kx_1615 kxp_40 kx_4 kx_1616 (by decide +kernel) rfl (by decide) (Nat.le_of_ble_eq_true rfl) rfl dX3_takeSignature_120 rfl (fun z3 T3 y3 => ?_)
                    obtain ⟨rfl, u3, Q3, r3, k3, W3, q3, j3, v3⟩ := y3
                    rw [show beW g (i + 4) (g (i + 3)) = sgr g i from rfl] at v3
                    rw [show decide (0 < beW g (i + 4) (g (i + 3)) ∧ beW g (i + 4) (g (i + 3)) < nN) = inN (sgr g i) from rfl]
                    have O3 := u3.at hO (by decide)
                    have y3 : T3.2.2 y = some (kB N g) := u3.at hy (by simp only [List.mem_cons, List.not_mem_nil, or_false, not_or]; exact ⟨hy18, hy19⟩)
                    refine ks_if_eqZ (tgt := 149) dX3_takeSignature_123 (by decide) rfl (fun h9 => ?_) (fun h9 => ?_)
                    · refine ks_iconst (x := nI 0) dX3_takeSignature_149 (by decide) rfl ?_
                      refine ks_putf (T := TX3) (kf := 3) kx_538 rfl in_X3 tyX3_ok nmX3 cl_X3 (by decide) O3 (Nat.le_of_ble_eq_true rfl) rfl rfl rfl rfl dX3_takeSignature_150 rfl ?_
                      refine ks_iconst (x := nI 1) dX3_takeSignature_153 (by decide) rfl ?_
                      refine ks_zret rfl rfl dX3_takeSignature_154 ?_
                      refine ⟨rfl, (u3.mono (by decide)).trans (ks_up_set _ _ (by decide)), false, Q3, r3, ks_set_same _ _ _, q3.up (ks_up_set _ _ (by decide : 14 ∈ [14])) (by decide) (by decide), k3, (ks_set_ne _ _ (by decide)).trans W3, fun j h => j3 j (by omega), fun _ => ⟨by rw [h9]; rfl, fun h => by cases h⟩⟩
                    · refine ks_aload_n dX3_takeSignature_126 rfl rfl ?_
                      refine ks_bipush (x := nI 9) dX3_takeSignature_127 (by decide) rfl ?_
                      refine ks_aload_n dX3_takeSignature_129 rfl rfl ?_
                      refine ks_iload_n dX3_takeSignature_130 rfl rfl ?_
                      refine ks_bipush (x := nI 6) dX3_takeSignature_131 (by decide) rfl ?_
                      refine ks_addN dX3_takeSignature_133 rfl ?_
                      refine ks_iload dX3_takeSignature_134 rfl rfl ?_
                      refine ks_addN dX3_takeSignature_136 rfl ?_
                      refine ks_iload dX3_takeSignature_137 rfl rfl ?_
                      refine ks_callV (n := 4) (M' := mX3_takeNumber) (c_cv_takeNumber (d := d) (q := 1) (i := i + 6 + g (i + 3)) (c := c - 7 - g (i + 3)) O3 q3 W3 k3 y3 hg hN (by omega) (by decide) hy18 hy19) O3 cl_X3 rfl kx_1613 kx_1615 kxp_40 kx_4 kx_1616 (by decide +kernel) rfl (by decide) (Nat.le_of_ble_eq_true rfl) rfl dX3_takeSignature_139 rfl (fun z4 T4 y4 => ?_)
                      obtain ⟨rfl, u4, Q4, r4, k4, W4, q4, j4, v4⟩ := y4
                      rw [show beW g (i + 6 + g (i + 3)) (c - 7 - g (i + 3)) = sgs g i c from rfl] at v4
                      rw [show decide (0 < beW g (i + 6 + g (i + 3)) (c - 7 - g (i + 3)) ∧ beW g (i + 6 + g (i + 3)) (c - 7 - g (i + 3)) < nN) = inN (sgs g i c) from rfl]
                      have O4 := u4.at O3 (by decide)
                      refine ks_if_eqZ (tgt := 149) dX3_takeSignature_142 (by decide) rfl (fun h10 => ?_) (fun h10 => ?_)
                      · refine ks_iconst (x := nI 0) dX3_takeSignature_149 (by decide) rfl ?_
                        refine ks_putf (T := TX3) (kf := 3) kx_538 rfl in_X3 tyX3_ok nmX3 cl_X3 (by decide) O4 (Nat.le_of_ble_eq_true rfl) rfl rfl rfl rfl dX3_takeSignature_150 rfl ?_
                        refine ks_iconst (x := nI 1) dX3_takeSignature_153 (by decide) rfl ?_
                        refine ks_zret rfl rfl dX3_takeSignature_154 ?_
                        refine ⟨rfl, (u3.mono (by decide)).trans ((u4.mono (by decide)).trans (ks_up_set _ _ (by decide))), false, Q4, r4, ks_set_same _ _ _, q4.up (ks_up_set _ _ (by decide : 14 ∈ [14])) (by decide) (by decide), k4, (ks_set_ne _ _ (by decide)).trans W4, fun j h => (j4 j (by omega)).trans (j3 j (by omega)), fun _ => ⟨by rw [h9, h10]; rfl, fun h => by cases h⟩⟩
                      · refine ks_iconst (x := nI 1) dX3_takeSignature_145 (by decide) rfl ?_
                        refine ks_goto (tgt := 150) dX3_takeSignature_146 (by decide) ?_
                        refine ks_putf (T := TX3) (kf := 3) kx_538 rfl in_X3 tyX3_ok nmX3 cl_X3 (by decide) O4 (Nat.le_of_ble_eq_true rfl) rfl rfl rfl rfl dX3_takeSignature_150 rfl ?_
                        refine ks_iconst (x := nI 1) dX3_takeSignature_153 (by decide) rfl ?_
                        refine ks_zret rfl rfl dX3_takeSignature_154 ?_
                        refine ⟨rfl, (u3.mono (by decide)).trans ((u4.mono (by decide)).trans (ks_up_set _ _ (by decide))), true, Q4, r4, ks_set_same _ _ _, q4.up (ks_up_set _ _ (by decide : 14 ∈ [14])) (by decide) (by decide), k4, (ks_set_ne _ _ (by decide)).trans W4, fun j h => (j4 j (by omega)).trans (j3 j (by omega)), fun _ => ⟨by rw [h9, h10]; rfl, fun h => ⟨(j4 0 (by decide)).trans (v3 (of_decide_eq_true h9)), v4 (of_decide_eq_true h10)⟩⟩⟩
                  · refine ks_iconst (x := nI 0) dX3_takeSignature_109 (by decide) rfl ?_
                    refine ks_zret rfl rfl dX3_takeSignature_110 ?_
                    have e9 : sgF g i c = false := decide_eq_false (fun h => by obtain ⟨a1, a2, a3, a4, a5, a6, a7, a8⟩ := h; rw [h8] at a8; cases a8)
                    exact ⟨by rw [e9]; rfl, ks_up.rf _ _, no e9⟩
              · refine ks_iconst (x := nI 0) dX3_takeSignature_80 (by decide) rfl ?_
                refine ks_zret rfl rfl dX3_takeSignature_81 ?_
                have e9 : sgF g i c = false := decide_eq_false (fun h => by obtain ⟨a1, a2, a3, a4, a5, a6, a7, a8⟩ := h; omega)
                exact ⟨by rw [e9]; rfl, ks_up.rf _ _, no e9⟩
          · refine ks_aload_n dX3_takeSignature_37 rfl rfl ?_
            refine ks_iload_n dX3_takeSignature_38 rfl rfl ?_
            refine ks_iconst (x := nI 3) dX3_takeSignature_39 (by decide) rfl ?_
            refine ks_addN dX3_takeSignature_40 rfl ?_
            refine ks_baldB (i := i + 3) hy rfl (by omega) (by omega) dX3_takeSignature_41 rfl ?_
            refine ks_sipush (x := nI 255) dX3_takeSignature_42 (by decide) rfl ?_
            refine ks_andB (hg _) dX3_takeSignature_45 rfl ?_
            have hy45 : g (i + 3) < 256 := (hg _)
            refine ks_istore dX3_takeSignature_46 (by decide) rfl ?_
            refine ks_sub [(4, _), (0, _), (1, _), (2, _), (3, _)] rfl ?_
            refine ks_iload_n dX3_takeSignature_48 rfl rfl ?_
            refine ks_bipush (x := nI 7) dX3_takeSignature_49 (by decide) rfl ?_
            refine ks_subN (by omega) dX3_takeSignature_51 rfl ?_
            refine ks_iload dX3_takeSignature_52 rfl rfl ?_
            refine ks_isub dX3_takeSignature_54 rfl ?_
            refine ks_istore dX3_takeSignature_55 (by decide) rfl ?_
            refine ks_sub [(5, _), (0, _), (1, _), (2, _), (3, _), (4, _)] rfl ?_
            refine ks_iload dX3_takeSignature_57 rfl rfl ?_
            refine ks_iconst (x := nI 1) dX3_takeSignature_59 (by decide) rfl ?_
            refine ks_icmp_lt (tgt := 80) dX3_takeSignature_60 (by decide) rfl (fun h5 => ?_) (fun h5 => ?_)
            · refine ks_iconst (x := nI 0) dX3_takeSignature_80 (by decide) rfl ?_
              refine ks_zret rfl rfl dX3_takeSignature_81 ?_
              have e9 : sgF g i c = false := decide_eq_false (fun h => by obtain ⟨a1, a2, a3, a4, a5, a6, a7, a8⟩ := h; omega)
              exact ⟨by rw [e9]; rfl, ks_up.rf _ _, no e9⟩
            · exact absurd (neg_lt (a := c - 7) (b := g (i + 3)) (by omega) (by omega)) h5
        · refine ks_iconst (x := nI 0) dX3_takeSignature_35 (by decide) rfl ?_
          refine ks_zret rfl rfl dX3_takeSignature_36 ?_
          have e9 : sgF g i c = false := decide_eq_false (fun h => by obtain ⟨a1, a2, a3, a4, a5, a6, a7, a8⟩ := h; omega)
          exact ⟨by rw [e9]; rfl, ks_up.rf _ _, no e9⟩
