/-! TARGET (44; value 45, divisor 46, rest 47) -/
def tg_num (b : Nat) : Nat := if 32 < b / 2 ^ 24 ∨ b / 2 ^ 23 % 2 = 1 then 0 else b % 256 ^ 3 * 256 ^ (b / 2 ^ 24) / 256 ^ 3
def tg_ok (S : ks_S) (N : Nat) : Prop := S.2.2 44 = some (.inr (12, [.ref 45, .ref 46, .ref 47])) ∧ (∃ g, kO g ∧ S.2.2 45 = some (kB 34 g) ∧ dg 256 g 34 = N) ∧ (∃ g, kO g ∧ S.2.2 46 = some (kB 34 g)) ∧ (∃ g, kO g ∧ S.2.2 47 = some (kB 34 g))
theorem tk_b (b i : Nat) : b % 256 ^ (i + 1) = b % 256 ^ i + 256 ^ i * (b / 256 ^ i % 256) := Nat.mod_pow_succ
theorem tk_s (b : Nat) {s i : Nat} (h : 3 ≤ s + i) : b % 256 ^ (i + 1) * 256 ^ s / 256 ^ 3 = b % 256 ^ i * 256 ^ s / 256 ^ 3 + (b / 256 ^ i % 256) * 256 ^ (s + i - 3) := by
  have e : 256 ^ i * 256 ^ s = 256 ^ 3 * 256 ^ (s + i - 3) := by rw [← Nat.pow_add, ← Nat.pow_add]; congr 1; omega
  rw [tk_b, Nat.add_mul, Nat.mul_right_comm, e, Nat.mul_assoc, Nat.add_mul_div_left _ _ (by decide), Nat.mul_comm (256 ^ (s + i - 3))]
theorem tk_n (b : Nat) {s i : Nat} (h : s + i ≤ 3) : b % 256 ^ i * 256 ^ s / 256 ^ 3 = 0 := by
  apply Nat.div_eq_of_lt
  have h1 : b % 256 ^ i < 256 ^ i := Nat.mod_lt _ (Nat.pow_pos (by decide))
  have h2 : b % 256 ^ i * 256 ^ s < 256 ^ i * 256 ^ s := Nat.mul_lt_mul_of_pos_right h1 (Nat.pow_pos (by decide))
  rw [← Nat.pow_add] at h2
  exact Nat.lt_of_lt_of_le h2 (Nat.pow_le_pow_right (by decide) (by omega))
theorem tk_ix {s i : Nat} (h : 3 ≤ s + i) : nI s - nI 3 + nI i = nI (s + i - 3) := by
  have e : nI (s + i) = nI s + nI i := (nI_add s i).symm
  rw [← pk_sub h, e, Int32.sub_eq_add_neg, Int32.sub_eq_add_neg, Int32.add_assoc, Int32.add_comm (-nI 3), ← Int32.add_assoc]
theorem tk_neg : ∀ s, s < 3 → ∀ i, i < 3 → s + i < 3 → nI s - nI 3 + nI i < 0 := by decide +kernel
theorem tk_bit {b : Nat} (h : b < 2 ^ 32) : nI b &&& nI 8388608 = 0 ↔ b / 2 ^ 23 % 2 = 0 := by
  have e : (nI b &&& nI 8388608).toBitVec.toNat = b / 2 ^ 23 % 2 * 2 ^ 23 := by
    show ((nI b).toBitVec &&& (nI 8388608).toBitVec).toNat = _
    rw [BitVec.toNat_and, pk_tn h, pk_tn (by decide), show 8388608 = 2 ^ 23 from rfl]
    apply Nat.eq_of_testBit_eq
    intro i
    have h9 := Nat.testBit_mod_two_pow (j := 1) (b / 2 ^ 23) (i - 23)
    rw [Nat.pow_one] at h9
    rw [Nat.testBit_and, Nat.testBit_two_pow, Nat.testBit_mul_two_pow, h9, Nat.testBit_div_two_pow]
    by_cases h1 : 23 = i
    · subst h1; simp
    · by_cases h2 : 23 ≤ i
      · have : ¬ (i - 23 < 1) := by omega
        simp [h1, this]
      · simp [h1, h2]
  constructor
  · intro h1
    rw [h1] at e
    have : (0 : Int32).toBitVec.toNat = 0 := rfl
    omega
  · intro h1
    rw [h1] at e
    apply Int32.toBitVec_inj.mp
    apply BitVec.eq_of_toNat_eq
    rw [e]
    rfl
theorem tk_or {x : Int32} {c : Nat} (hc : c < 256) : x ||| sb_b c = 0 ↔ x = 0 ∧ c = 0 := by
  constructor
  · intro h
    have h1 : ∀ i, bt x i = false ∧ bt (sb_b c) i = false := fun i => by
      have h2 : bt (x ||| sb_b c) i = false := by rw [h]; exact b_0 i
      rw [b_or] at h2
      simpa using h2
    refine ⟨b_ext (fun i _ => by rw [(h1 i).1, b_0]), (kb_e0 hc).mp (b_ext (fun i _ => by rw [(h1 i).2, b_0]))⟩
  · rintro ⟨rfl, rfl⟩
    decide
set_option maxRecDepth 100000 in
set_option maxHeartbeats 40000000 in
theorem l_take {l : Launch} {G : ks_G} {d : Nat} {S : ks_S} {b s N : Nat} (hT : tg_ok S N) (hb : b < 2 ^ 32) (hs : s = b / 2 ^ 24) (hs2 : s ≤ 32) (hb2 : b / 2 ^ 23 % 2 = 0) : ∀ (k i : Nat), i + k = 3 → ∀ (S1 : ks_S) (g : Nat → Nat) (x : Int32), ks_up S S1 [45] → S1.2.2 45 = some (kB 34 g) → kO g → (∀ j, j < 34 → s + i ≤ j + 3 → g j = 0) → dg 256 g 34 = b % 256 ^ i * 256 ^ s / 256 ^ 3 → (x = 0 ↔ dg 256 g 34 = 0) → ks_X l G mX9_take (d + 1) 33 [(4, .int (nI i)), (3, .int x), (2, .int (nI s)), (0, .ref 44), (1, .int (nI b))] [] S1 (fun z S' => z = some (.int (ks_bo (decide (tg_num b ≠ 0)))) ∧ ks_up S S' [45] ∧ tg_ok S' (tg_num b)) := by
  intro k
  induction k with
  | zero =>
    intro i hi S1 g x hu h45 hg hz hd hx
    have h44 := hu.at hT.1 (by decide)
    refine ks_iload dX9_take_33 rfl rfl ?_
    refine ks_iconst (x := nI 3) dX9_take_35 (by decide) rfl ?_
    refine ks_icmp_geN (tgt := 83) (by omega) (by decide) dX9_take_36 (by decide) rfl (fun hc => ?_) (fun hc => ?_)
    · obtain rfl : i = 3 := by omega
      have e : tg_num b = dg 256 g 34 := by rw [tg_num, if_neg (by omega), hd, hs]
      have hT1 : tg_ok S1 (tg_num b) := ⟨h44, ⟨g, hg, h45, e.symm⟩, ⟨_, hT.2.2.1.choose_spec.1, hu.at hT.2.2.1.choose_spec.2 (by decide)⟩, ⟨_, hT.2.2.2.choose_spec.1, hu.at hT.2.2.2.choose_spec.2 (by decide)⟩⟩
      refine ks_iload_n dX9_take_83 rfl rfl ?_
      refine ks_if_eq (tgt := 91) dX9_take_84 (by decide) rfl (fun hc84 => ?_) (fun hc84 => ?_)
      · refine ks_iconst (x := nI 0) dX9_take_91 (by decide) rfl ?_
        refine ks_zret rfl rfl dX9_take_92 ?_
        refine ⟨?_, hu, hT1⟩
        rw [decide_eq_false (by rw [e]; exact fun h => h (hx.mp hc84))]
        rfl
      · refine ks_iconst (x := nI 1) dX9_take_87 (by decide) rfl ?_
        refine ks_goto (tgt := 92) dX9_take_88 (by decide) ?_
        refine ks_zret rfl rfl dX9_take_92 ?_
        refine ⟨?_, hu, hT1⟩
        rw [decide_eq_true (by rw [e]; exact fun h => hc84 (hx.mpr h))]
        rfl
    · exact absurd (show 3 ≤ i by omega) hc
  | succ k ih =>
    intro i hi S1 g x hu h45 hg hz hd hx
    have h44 := hu.at hT.1 (by decide)
    refine ks_iload dX9_take_33 rfl rfl ?_
    refine ks_iconst (x := nI 3) dX9_take_35 (by decide) rfl ?_
    refine ks_icmp_geN (tgt := 83) (by omega) (by decide) dX9_take_36 (by decide) rfl (fun hc => ?_) (fun hc => ?_)
    · exact absurd hc (by omega)
    · refine ks_iload_n dX9_take_39 rfl rfl ?_
      refine ks_iconst (x := nI 3) dX9_take_40 (by decide) rfl ?_
      refine ks_isub dX9_take_41 rfl ?_
      refine ks_iload dX9_take_42 rfl rfl ?_
      refine ks_iadd dX9_take_44 rfl ?_
      by_cases h3 : 3 ≤ s + i
      · refine ks_ti (y := nI (s + i - 3)) (tk_ix h3) ?_
        refine ks_istore dX9_take_45 (by decide) rfl ?_
        refine ks_sub [(5, _), (4, _), (3, _), (2, _), (0, _), (1, _)] rfl ?_
        refine ks_iload dX9_take_47 rfl rfl ?_
        refine ks_if_ltN (tgt := 77) (by omega) dX9_take_49 (by decide) rfl ?_
        refine ks_aload_n dX9_take_52 rfl rfl ?_
        refine ks_getf (T := TX9) (kf := 0) kx_719 rfl in_X9 cl_X9 (by decide) h44 rfl dX9_take_53 rfl ?_
        refine ks_iload dX9_take_56 rfl rfl ?_
        refine ks_iload_n dX9_take_58 rfl rfl ?_
        refine ks_bipush (x := nI 8) dX9_take_59 (by decide) rfl ?_
        refine ks_iload dX9_take_61 rfl rfl ?_
        refine ks_mulN dX9_take_63 rfl ?_
        refine ks_ushrN (k := 8 * i) (s_u _ (by omega)) (by omega) dX9_take_64 rfl ?_
        refine ks_i2b dX9_take_65 rfl ?_
        refine ks_bastB (i := s + i - 3) (c := (b / 2 ^ (8 * i)) % 256) h45 rfl (by omega) (by decide) ((ks_by_i8 _).trans (ks_by_nI _)) dX9_take_66 rfl ?_
        refine ks_iload_n dX9_take_67 rfl rfl ?_
        refine ks_aload_n dX9_take_68 rfl rfl ?_
        refine ks_getf (T := TX9) (kf := 0) kx_719 rfl in_X9 cl_X9 (by decide) ((ks_set_ne _ _ (by decide)).trans h44) rfl dX9_take_69 rfl ?_
        refine ks_iload dX9_take_72 rfl rfl ?_
        refine ks_baldB (i := s + i - 3) (ks_set_same _ _ _) rfl (by omega) (by decide) dX9_take_74 rfl ?_
        have e8 : b / 2 ^ (8 * i) = b / 256 ^ i := by rw [show (256 : Nat) = 2 ^ 8 from rfl, ← Nat.pow_mul]
        refine ks_ior dX9_take_75 rfl ?_
        refine ks_istore_n dX9_take_76 (by decide) rfl ?_
        refine ks_sub [(3, _), (4, _), (2, _), (0, _), (1, _), (5, _)] rfl ?_
        refine ks_incN (c := 1) (e := i + 1) dX9_take_77 rfl (by decide) rfl (by decide) rfl ?_
        refine ks_goto (tgt := 33) dX9_take_80 (by decide) ?_
        have h0 : g (s + i - 3) = 0 := hz _ (by omega) (by omega)
        have e1 := dg_up (B := 256) (f := g) (n := 34) (j := s + i - 3) (c := b / 2 ^ (8 * i) % 256) (by omega)
        rw [h0, Nat.zero_mul, Nat.add_zero, hd, e8, ← tk_s b h3, ← e8] at e1
        have e2 : va_up g (s + i - 3) (b / 2 ^ (8 * i) % 256) (s + i - 3) = b / 2 ^ (8 * i) % 256 := va_up_self _ _ _
        refine ks_sub [(4, _), (3, _), (2, _), (0, _), (1, _)] rfl (ih (i + 1) (by omega) _ _ _ (hu.trans (ks_up_set _ _ (by decide))) (ks_set_same _ _ _) (kO_up hg (Nat.mod_lt _ (by decide))) ?_ e1 ?_)
        · intro j hj0 hj
          rw [va_up_ne _ _ (by omega)]
          exact hz j hj0 (by omega)
        · show _ ||| sb_b _ = 0 ↔ _
          rw [tk_or (by rw [e2]; exact Nat.mod_lt _ (by decide)), e2, e1, tk_s b h3, ← e8, hx, hd]
          have hp : 0 < 256 ^ (s + i - 3) := Nat.pow_pos (by decide)
          constructor
          · rintro ⟨a1, a2⟩
            rw [a1, a2, Nat.zero_mul]
          · intro a1
            have a2 : b / 2 ^ (8 * i) % 256 * 256 ^ (s + i - 3) = 0 := by omega
            rcases Nat.mul_eq_zero.mp a2 with a3 | a3
            · exact ⟨by omega, a3⟩
            · omega
      · refine ks_istore dX9_take_45 (by decide) rfl ?_
        refine ks_sub [(5, _), (4, _), (3, _), (2, _), (0, _), (1, _)] rfl ?_
        refine ks_iload dX9_take_47 rfl rfl ?_
        refine ks_if_lt (tgt := 77) dX9_take_49 (by decide) rfl (fun hc => ?_) (fun hc => ?_)
        · refine ks_incN (c := 1) (e := i + 1) dX9_take_77 rfl (by decide) rfl (by decide) rfl ?_
          refine ks_goto (tgt := 33) dX9_take_80 (by decide) ?_
          refine ks_sub [(4, _), (3, _), (2, _), (0, _), (1, _)] rfl (ih (i + 1) (by omega) S1 g x hu h45 hg (fun j hj0 hj => hz j hj0 (by omega)) ?_ hx)
          rw [hd, tk_n b (by omega), tk_n b (by omega)]
        · exact absurd (tk_neg s (by omega) i (by omega) (by omega)) hc
set_option maxRecDepth 100000 in
set_option maxHeartbeats 40000000 in
theorem c_take {l : Launch} {G : ks_G} {d : Nat} {S : ks_S} {b N : Nat} (hT : tg_ok S N) (hb : b < 2 ^ 32) : ks_P l G yX9_take mX9_take (d + 1) [.ref 44, .int (nI b)] S (fun z S' => z = some (.int (ks_bo (decide (tg_num b ≠ 0)))) ∧ ks_up S S' [45] ∧ tg_ok S' (tg_num b)) := by
  obtain ⟨gv, hgv, hv, -⟩ := hT.2.1
  refine ks_of (by decide) rfl rfl (Nat.le_of_ble_eq_true rfl) ?_
  show ks_X l G mX9_take (d + 1) 0 [(0, .ref 44), (1, .int (nI b))] [] S _
  refine ks_iload_n dX9_take_0 rfl rfl ?_
  refine ks_bipush (x := nI 24) dX9_take_1 (by decide) rfl ?_
  refine ks_ushrN (k := 24) (by decide) (by omega) dX9_take_3 rfl ?_
  refine ks_istore_n dX9_take_4 (by decide) rfl ?_
  refine ks_sub [(2, _), (0, _), (1, _)] rfl ?_
  refine ks_aload_n dX9_take_5 rfl rfl ?_
  refine ks_getf (T := TX9) (kf := 0) kx_719 rfl in_X9 cl_X9 (by decide) hT.1 rfl dX9_take_6 rfl ?_
  refine ks_iconst (x := nI 0) dX9_take_9 (by decide) rfl ?_
  refine ks_callS (n := 2) (M' := mJ7_fill_031fb) (c_fillB (d := d) (x := nI 0) hv (by decide)) kx_920 kx_901 kx_6 kx_902 (by decide +kernel) rfl (by decide) (Nat.le_of_ble_eq_true rfl) rfl dX9_take_10 rfl (fun r1 S9 h9 => ?_)
  obtain ⟨rfl, rfl⟩ := h9
  have hg9 : kO (ks_fill gv 0 34 (ks_by (nI 0))) := kO_fill hgv _ _ (ks_by_lt _)
  have hd9 : dg 256 (ks_fill gv 0 34 (ks_by (nI 0))) 34 = 0 := dg_0 (fun k hk => if_pos ⟨Nat.zero_le _, hk⟩)
  have hu9 : ks_up S (ks_set S 45 (kB 34 (ks_fill gv 0 34 (ks_by (nI 0))))) [45] := ks_up_set _ _ (by decide)
  have hT9 : tg_num b = 0 → tg_ok (ks_set S 45 (kB 34 (ks_fill gv 0 34 (ks_by (nI 0))))) (tg_num b) := fun e => ⟨hu9.at hT.1 (by decide), ⟨_, hg9, ks_set_same _ _ _, by rw [hd9, e]⟩, ⟨_, hT.2.2.1.choose_spec.1, hu9.at hT.2.2.1.choose_spec.2 (by decide)⟩, ⟨_, hT.2.2.2.choose_spec.1, hu9.at hT.2.2.2.choose_spec.2 (by decide)⟩⟩
  refine ks_iload_n dX9_take_13 rfl rfl ?_
  refine ks_bipush (x := nI 32) dX9_take_14 (by decide) rfl ?_
  refine ks_icmp_gtN (tgt := 26) (by omega) (by decide) dX9_take_16 (by decide) rfl (fun hc16 => ?_) (fun hc16 => ?_)
  · refine ks_iconst (x := nI 0) dX9_take_26 (by decide) rfl ?_
    refine ks_zret rfl rfl dX9_take_27 ?_
    have e : tg_num b = 0 := if_pos (by omega)
    refine ⟨?_, hu9, hT9 e⟩
    rw [decide_eq_false (fun h => h e)]
    rfl
  · refine ks_iload_n dX9_take_19 rfl rfl ?_
    refine ks_ldc dX9_take_20 kx_921 rfl ?_
    refine ks_ti (y := nI 8388608) rfl ?_
    refine ks_iand dX9_take_22 rfl ?_
    refine ks_if_eq (tgt := 28) dX9_take_23 (by decide) rfl (fun hc23 => ?_) (fun hc23 => ?_)
    · refine ks_iconst (x := nI 0) dX9_take_28 (by decide) rfl ?_
      refine ks_istore_n dX9_take_29 (by decide) rfl ?_
      refine ks_sub [(3, _), (0, _), (1, _), (2, _)] rfl ?_
      refine ks_iconst (x := nI 0) dX9_take_30 (by decide) rfl ?_
      refine ks_istore dX9_take_31 (by decide) rfl ?_
      refine ks_sub [(4, _), (0, _), (1, _), (2, _), (3, _)] rfl ?_
      rw [tk_bit hb] at hc23
      obtain ⟨g0, e0, k0, z0⟩ : ∃ g0, kB 34 (ks_fill gv 0 34 (ks_by (nI 0))) = kB 34 g0 ∧ kO g0 ∧ ∀ j, 0 ≤ j → j < 34 → g0 j = 0 := ⟨_, rfl, hg9, fun j _ hj => if_pos ⟨Nat.zero_le _, hj⟩⟩
      refine ks_sub [(4, _), (3, _), (2, _), (0, _), (1, _)] rfl (l_take hT hb rfl (by omega) hc23 3 0 rfl _ _ _ hu9 (ks_set_same _ _ _) hg9 (fun j hj _ => if_pos ⟨Nat.zero_le _, hj⟩) ?_ ?_)
      · rw [hd9, Nat.pow_zero, Nat.mod_one, Nat.zero_mul, Nat.zero_div]
      · rw [hd9]; decide
    · rw [tk_bit hb] at hc23
      refine ks_iconst (x := nI 0) dX9_take_26 (by decide) rfl ?_
      refine ks_zret rfl rfl dX9_take_27 ?_
      have e : tg_num b = 0 := if_pos (by omega)
      refine ⟨?_, hu9, hT9 e⟩
      rw [decide_eq_false (fun h => h e)]
      rfl
