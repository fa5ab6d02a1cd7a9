/-! FIELD: bytes -/
/-- 32 bytes, the highest first, as a number -/
def beN (g : Nat → Nat) (i : Nat) : Nat := dg 256 (fun k => g (i + 31 - k)) 32
theorem beN_lt {g : Nat → Nat} (hg : kO g) (i : Nat) : beN g i < 2 ^ 256 := dg_lt (B := 256) (fun k _ => hg _)
theorem beN_b {g : Nat → Nat} (hg : kO g) (i : Nat) {m : Nat} (hm : m < 32) : beN g i / 2 ^ (8 * m) % 256 = g (i + 31 - m) := by
  have := dg_dig (B := 256) (by decide) (f := fun k => g (i + 31 - k)) (n := 32) (fun k _ => hg _) hm
  rw [show 256 ^ m = 2 ^ (8 * m) by rw [Nat.pow_mul]] at this
  exact this
theorem by_long : ∀ c, c < 256 → (sb_b c).toInt64 &&& lN 255 = lN c := by decide +kernel
theorem dv_mod {V a b : Nat} (h : b ≤ a) : V % 2 ^ a / 2 ^ b = V / 2 ^ b % 2 ^ (a - b) := by
  rw [show 2 ^ a = 2 ^ b * 2 ^ (a - b) by rw [← Nat.pow_add]; congr 1; omega, Nat.mod_mul_right_div_self]
/-- the bits that are held when m bytes have come -/
def ldB (V m : Nat) : Nat := V % 2 ^ (8 * m) / 2 ^ (29 * (8 * m / 29))
theorem ldB_lt (V m : Nat) : ldB V m < 2 ^ (8 * m % 29) := by
  unfold ldB
  rw [dv_mod (by omega)]
  rw [show 8 * m - 29 * (8 * m / 29) = 8 * m % 29 by omega]
  exact Nat.mod_lt _ (Nat.two_pow_pos _)
theorem ldB_step (V m : Nat) : ldB V m + V / 2 ^ (8 * m) % 256 * 2 ^ (8 * m % 29) = V % 2 ^ (8 * (m + 1)) / 2 ^ (29 * (8 * m / 29)) := by
  unfold ldB
  rw [show 2 ^ (8 * (m + 1)) = 2 ^ (8 * m) * 256 by rw [Nat.mul_succ, Nat.pow_add], Nat.mod_mul]
  have e : 2 ^ (8 * m) = 2 ^ (29 * (8 * m / 29)) * 2 ^ (8 * m % 29) := by rw [← Nat.pow_add]; congr 1; omega
  have e2 : 2 ^ (8 * m) * (V / 2 ^ (8 * m) % 256) = 2 ^ (29 * (8 * m / 29)) * (V / 2 ^ (8 * m) % 256 * 2 ^ (8 * m % 29)) := by
    generalize V / 2 ^ (8 * m) % 256 = q
    rw [e, Nat.mul_assoc, Nat.mul_comm q]
  rw [e2, Nat.add_mul_div_left _ _ (Nat.two_pow_pos _)]
theorem dv_dig {V a b : Nat} (h : b + 29 ≤ a) : V % 2 ^ a / 2 ^ b % 536870912 = V / 2 ^ b % 536870912 := by
  rw [dv_mod (by omega), show 536870912 = 2 ^ 29 from rfl, Nat.mod_mod_of_dvd _ (Nat.pow_dvd_pow 2 (by omega))]
theorem two_dig (V l off : Nat) (h : off < 29) : dL V l / 2 ^ off + dL V (l + 1) * 2 ^ (29 - off) = V / 2 ^ (29 * l) % 2 ^ 58 / 2 ^ off := by
  have e1 : dL V (l + 1) = V / 2 ^ (29 * l) / 536870912 % 536870912 := by
    unfold dL
    rw [show 2 ^ (29 * (l + 1)) = 2 ^ (29 * l) * 536870912 by rw [Nat.mul_succ, Nat.pow_add], Nat.div_div_eq_div_mul]
  rw [e1]
  show V / 2 ^ (29 * l) % 536870912 / 2 ^ off + _ = _
  generalize V / 2 ^ (29 * l) = U
  rw [show (2 : Nat) ^ 58 = 536870912 * 536870912 from rfl, Nat.mod_mul]
  have e2 : 536870912 * (U / 536870912 % 536870912) = 2 ^ off * (U / 536870912 % 536870912 * 2 ^ (29 - off)) := by
    generalize U / 536870912 % 536870912 = q
    rw [show (536870912 : Nat) = 2 ^ off * 2 ^ (29 - off) by rw [← Nat.pow_add, show off + (29 - off) = 29 by omega], Nat.mul_assoc, Nat.mul_comm q]
  rw [e2, Nat.add_mul_div_left _ _ (Nat.two_pow_pos _)]
def bitW (V bit : Nat) : Nat := if bit / 29 < 8 then V / 2 ^ (29 * (bit / 29)) % 2 ^ 58 / 2 ^ (bit % 29) else dL V (bit / 29) / 2 ^ (bit % 29)
theorem bitW_lt (V bit : Nat) : bitW V bit < 2 ^ 58 := by
  unfold bitW
  split
  · exact Nat.lt_of_le_of_lt (Nat.div_le_self _ _) (Nat.mod_lt _ (by decide))
  · exact Nat.lt_of_le_of_lt (Nat.div_le_self _ _) (Nat.lt_trans (dL_lt _ _) (by decide))
theorem bitW_v {V bit : Nat} (hV : V < 3705346855594118253554271520278013051304639509300498049262642688253220148477952) (hb : bit < 256) : bitW V bit % 256 = V / 2 ^ bit % 256 := by
  have eb : 2 ^ bit = 2 ^ (29 * (bit / 29)) * 2 ^ (bit % 29) := by rw [← Nat.pow_add]; congr 1; omega
  unfold bitW
  split
  · next h =>
    rw [dv_mod (by omega), show 256 = 2 ^ 8 from rfl, Nat.mod_mod_of_dvd _ (Nat.pow_dvd_pow 2 (by omega)), Nat.div_div_eq_div_mul, ← eb]
  · next h =>
    have e8 : bit / 29 = 8 := by omega
    rw [e8] at eb ⊢
    unfold dL
    have e5 : V / 2 ^ (29 * 8) % 536870912 = V / 2 ^ (29 * 8) := Nat.mod_eq_of_lt (by rw [Nat.div_lt_iff_lt_mul (Nat.two_pow_pos _)]; exact hV)
    rw [e5, Nat.div_div_eq_div_mul, ← eb]
theorem layP_8 {R : Nat → Nat} {o V : Nat} : va_up (layP R o V 8) (9 * o + 8) (dL V 8) = lay (va_up R o V) := by rw [layP_up, layP_9]
set_option maxRecDepth 100000 in
set_option maxHeartbeats 2000000 in
theorem c_fd_bitsAt {l : Launch} {G : ks_G} {d : Nat} {S : ks_S} {fo fc n : Nat} {R : Nat → Nat} (hF : fdX S fo fc n R) {x bt : Nat} (hx : x < n + 5) (hb : bt < 256) : ks_P l G yX5_bitsAt mX5_bitsAt d [.ref fo, .int (nI (9 * x)), .int (nI bt)] S (fun z S' => z = some (.long (lN (bitW (R x) bt))) ∧ S' = S) := by
  have hn := hF.2.2.1
  refine ks_of (by decide) rfl rfl (Nat.le_of_ble_eq_true rfl) ?_
  show ks_X l G mX5_bitsAt d 0 [(0, .ref fo), (1, .int (nI (9 * x))), (2, .int (nI bt))] [] S _
  refine ks_iload_n dX5_bitsAt_0 rfl rfl ?_
  refine ks_bipush (x := nI 29) dX5_bitsAt_1 (by decide) rfl ?_
  refine ks_divN (by omega) (by decide) (by decide) dX5_bitsAt_3 rfl ?_
  refine ks_istore_n dX5_bitsAt_4 (by decide) rfl ?_
  refine ks_sub [(3, _), (0, _), (1, _), (2, _)] rfl ?_
  refine ks_iload_n dX5_bitsAt_5 rfl rfl ?_
  refine ks_bipush (x := nI 29) dX5_bitsAt_6 (by decide) rfl ?_
  refine ks_remN (by omega) (by decide) (by decide) dX5_bitsAt_8 rfl ?_
  refine ks_istore dX5_bitsAt_9 (by decide) rfl ?_
  refine ks_sub [(4, _), (0, _), (1, _), (2, _), (3, _)] rfl ?_
  refine ks_aload_n dX5_bitsAt_11 rfl rfl ?_
  refine ks_getf (T := TX5) (kf := 0) kx_121 rfl in_X5 cl_X5 (by decide) hF.1 rfl dX5_bitsAt_12 rfl ?_
  refine ks_iload_n dX5_bitsAt_15 rfl rfl ?_
  refine ks_iload_n dX5_bitsAt_16 rfl rfl ?_
  refine ks_addN dX5_bitsAt_17 rfl ?_
  refine ks_laldN (i := 9 * x + (bt / 29)) hF.2.1 rfl (by omega) (by omega) dX5_bitsAt_18 rfl ?_
  rw [lay_at R x (by omega)]
  have d1 := dL_lt (R x) (bt / 29)
  refine ks_iload dX5_bitsAt_19 rfl rfl ?_
  refine ks_lushrN (k := bt % 29) (by omega) (by omega) dX5_bitsAt_21 rfl ?_
  refine ks_lstore dX5_bitsAt_22 (by decide) rfl ?_
  refine ks_sub [(5, _), (0, _), (1, _), (2, _), (3, _), (4, _)] rfl ?_
  refine ks_iload_n dX5_bitsAt_24 rfl rfl ?_
  refine ks_bipush (x := nI 8) dX5_bitsAt_25 (by decide) rfl ?_
  refine ks_icmp_geN (tgt := 52) (by omega) (by decide) dX5_bitsAt_27 (by decide) rfl (fun h1 => ?_) (fun h1 => ?_)
  · refine ks_lload dX5_bitsAt_52 rfl rfl ?_
    refine ks_lret rfl dX5_bitsAt_54 ?_
    refine ⟨?_, rfl⟩
    unfold bitW
    rw [if_neg (by omega)]
  · refine ks_lload dX5_bitsAt_30 rfl rfl ?_
    refine ks_aload_n dX5_bitsAt_32 rfl rfl ?_
    refine ks_getf (T := TX5) (kf := 0) kx_121 rfl in_X5 cl_X5 (by decide) hF.1 rfl dX5_bitsAt_33 rfl ?_
    refine ks_iload_n dX5_bitsAt_36 rfl rfl ?_
    refine ks_iload_n dX5_bitsAt_37 rfl rfl ?_
    refine ks_addN dX5_bitsAt_38 rfl ?_
    refine ks_iconst (x := nI 1) dX5_bitsAt_39 (by decide) rfl ?_
    refine ks_addN dX5_bitsAt_40 rfl ?_
    refine ks_laldN (i := 9 * x + (bt / 29) + 1) hF.2.1 rfl (by omega) (by omega) dX5_bitsAt_41 rfl ?_
    rw [show 9 * x + bt / 29 + 1 = 9 * x + (bt / 29 + 1) from rfl, lay_at R x (by omega)]
    have d2 := dL_lt (R x) (bt / 29 + 1)
    refine ks_bipush (x := nI 29) dX5_bitsAt_42 (by decide) rfl ?_
    refine ks_iload dX5_bitsAt_44 rfl rfl ?_
    refine ks_subN (by omega) dX5_bitsAt_46 rfl ?_
    refine ks_lshlN (k := 29 - (bt % 29)) (by omega) dX5_bitsAt_47 rfl ?_
    refine ks_lor dX5_bitsAt_48 rfl ?_
    have o1 : dL (R x) (bt / 29) / 2 ^ (bt % 29) < 2 ^ (29 - bt % 29) := by
      rw [Nat.div_lt_iff_lt_mul (Nat.two_pow_pos _), ← Nat.pow_add, show 29 - bt % 29 + bt % 29 = 29 by omega]
      exact d1
    have o2 : dL (R x) (bt / 29) / 2 ^ (bt % 29) + dL (R x) (bt / 29 + 1) * 2 ^ (29 - bt % 29) < 2 ^ 64 := by
      rw [two_dig _ _ _ (by omega)]
      exact Nat.lt_of_le_of_lt (Nat.div_le_self _ _) (Nat.lt_trans (Nat.mod_lt _ (by decide)) (by decide))
    refine ks_tl (y := lN (bitW (R x) bt)) ((g_or' (k := 29 - bt % 29) rfl o1 o2).trans (congrArg lN ?_)) ?_
    · rw [two_dig _ _ _ (by omega)]
      unfold bitW
      rw [if_pos (by omega)]
    refine ks_goto (tgt := 54) dX5_bitsAt_49 (by decide) ?_
    refine ks_lret rfl dX5_bitsAt_54 ?_
    exact ⟨rfl, rfl⟩
theorem sub29 {a : Nat} (h : 29 ≤ a) : nI (a - 29) = nI a + (-29) := by
  obtain ⟨q, rfl⟩ : ∃ q, a = q + 29 := ⟨a - 29, by omega⟩
  rw [Nat.add_sub_cancel]
  show Int32.ofInt ((q : Nat) : Int) = Int32.ofInt ((q + 29 : Nat) : Int) + Int32.ofInt (-29)
  rw [← Int32.ofInt_add]
  congr 1
  omega
set_option maxRecDepth 100000 in
set_option maxHeartbeats 2000000 in
theorem c_fd_load {l : Launch} {G : ks_G} {d : Nat} {S : ks_S} {fo fc n : Nat} {R : Nat → Nat} (hF : fdX S fo fc n R) {o y N i : Nat} {g : Nat → Nat} (ho : o < n + 5) (hy : S.2.2 y = some (kB N g)) (hg : kO g) (hN : N < 2 ^ 20) (hi : i + 32 ≤ N) (hyc : y ≠ fc) : ks_P l G yX5_load mX5_load d [.ref fo, .int (nI (9 * o)), .ref y, .int (nI i)] S (fun z S' => z = none ∧ ks_up S S' [fc] ∧ fdX S' fo fc n (va_up R o (beN g i))) := by
  have hn := hF.2.2.1
  have hV := beN_lt hg i
  obtain ⟨V, eV⟩ : ∃ V, beN g i = V := ⟨_, rfl⟩
  rw [eV] at hV ⊢
  have hvb : ∀ m, m < 32 → V / 2 ^ (8 * m) % 256 = g (i + 31 - m) := fun m hm => by rw [← eV]; exact beN_b hg i hm
  have loop : ∀ m c (S1 : ks_S), m + c = 32 → ks_up S S1 [fc] → S1.2.2 fo = some (.inr (8, [.ref fc, .int (nI (9 * n)), .int (nI (9 * (n + 1))), .int (nI (9 * (n + 2))), .int (nI (9 * (n + 3))), .int (nI (9 * (n + 4)))])) → S1.2.2 fc = some (kL (9 * (n + 5)) (layP R o V (8 * m / 29))) → ks_X l G mX5_load d 13 [(0, .ref fo), (1, .int (nI (9 * o))), (2, .ref y), (3, .int (nI i)), (4, .long (lN (ldB V m))), (6, .int (nI (8 * m % 29))), (7, .int (nI (9 * o + 8 * m / 29))), (8, .int (nI c - 1))] [] S1 (fun z S' => z = none ∧ ks_up S S' [fc] ∧ fdX S' fo fc n (va_up R o (V))) := by
    intro m c
    induction c generalizing m with
    | zero =>
      intro S1 hm hu ho1 hc
      have hy1 := hu.at hy (by simp only [List.mem_cons, List.not_mem_nil, or_false]; exact hyc)
      refine ks_iload dX5_load_13 rfl rfl ?_
      refine ks_if_ltD (tgt := 79) (by omega) dX5_load_15 (by decide) rfl (fun h1 => ?_) (fun h1 => ?_)
      · obtain rfl : m = 32 := by omega
        refine ks_aload_n dX5_load_79 rfl rfl ?_
        refine ks_getf (T := TX5) (kf := 0) kx_121 rfl in_X5 cl_X5 (by decide) ho1 rfl dX5_load_80 rfl ?_
        refine ks_iload_n dX5_load_83 rfl rfl ?_
        refine ks_bipush (x := nI 8) dX5_load_84 (by decide) rfl ?_
        refine ks_addN dX5_load_86 rfl ?_
        refine ks_lload dX5_load_87 rfl rfl ?_
        have e8 : ldB V 32 = dL V 8 := by
          unfold ldB dL
          rw [Nat.mod_eq_of_lt hV]
          show V / 2 ^ 232 = V / 2 ^ 232 % 536870912
          omega
        refine ks_tl (y := lN (dL V 8)) (congrArg lN e8) ?_
        refine ks_lastNN (i := 9 * o + 8) (v := dL V 8) hc (by omega) (by omega) dX5_load_89 rfl ?_
        refine ks_ret rfl dX5_load_90 ?_
        refine ⟨rfl, hu.trans (ks_up_set _ _ (by simp)), hF.mk (hu.trans (ks_up_set _ _ (by simp))) ?_ (by omega)⟩
        rw [ks_set_same, layP_8]
      · exact absurd rfl h1
    | succ c ih =>
      intro S1 hm hu ho1 hc
      have hy1 := hu.at hy (by simp only [List.mem_cons, List.not_mem_nil, or_false]; exact hyc)
      rw [nI_pred]
      refine ks_iload dX5_load_13 rfl rfl ?_
      refine ks_if_ltN (tgt := 79) (by omega) dX5_load_15 (by decide) rfl ?_
      refine ks_lload dX5_load_18 rfl rfl ?_
      refine ks_aload_n dX5_load_20 rfl rfl ?_
      refine ks_iload_n dX5_load_21 rfl rfl ?_
      refine ks_iload dX5_load_22 rfl rfl ?_
      refine ks_addN dX5_load_24 rfl ?_
      refine ks_baldB (i := i + c) hy1 rfl (by omega) (by omega) dX5_load_25 rfl ?_
      refine ks_i2l dX5_load_26 rfl ?_
      refine ks_ldc2 dX5_load_27 kx_1369 rfl ?_
      refine ks_tl (y := lN 255) rfl ?_
      refine ks_land dX5_load_30 rfl ?_
      refine ks_tl (y := lN (g (i + c))) (by_long _ (hg _)) ?_
      refine ks_iload dX5_load_31 rfl rfl ?_
      refine ks_lshlN (k := 8 * m % 29) (by omega) dX5_load_33 rfl ?_
      refine ks_lor dX5_load_34 rfl ?_
      have eb := hvb m (by omega)
      rw [show i + 31 - m = i + c by omega] at eb
      have es := ldB_step V m
      rw [eb] at es
      have bl := ldB_lt V m
      have hT : V % 2 ^ (8 * (m + 1)) / 2 ^ (29 * (8 * m / 29)) < 2 ^ 37 := by
        rw [dv_mod (by omega)]
        exact Nat.lt_of_lt_of_le (Nat.mod_lt _ (Nat.two_pow_pos _)) (Nat.pow_le_pow_right (by decide) (by omega))
      refine ks_tl (y := lN (V % 2 ^ (8 * (m + 1)) / 2 ^ (29 * (8 * m / 29)))) ((g_or' (k := 8 * m % 29) rfl bl (by rw [es]; omega)).trans (congrArg lN es)) ?_
      refine ks_lstore dX5_load_35 (by decide) rfl ?_
      refine ks_sub [(4, _), (0, _), (1, _), (2, _), (3, _), (6, _), (7, _), (8, _)] rfl ?_
      refine ks_incN (c := 8) (e := 8 * m % 29 + 8) dX5_load_37 rfl (by decide) rfl (by decide) rfl ?_
      refine ks_sub [(6, _), (0, _), (1, _), (2, _), (3, _), (4, _), (7, _), (8, _)] rfl ?_
      refine ks_iload dX5_load_40 rfl rfl ?_
      refine ks_bipush (x := nI 29) dX5_load_42 (by decide) rfl ?_
      refine ks_icmp_ltN (tgt := 73) (by omega) (by decide) dX5_load_44 (by decide) rfl (fun h2 => ?_) (fun h2 => ?_)
      · refine ks_incD dX5_load_73 rfl (by decide) (by decide) rfl ?_
        refine ks_sub [(8, _), (0, _), (1, _), (2, _), (3, _), (4, _), (6, _), (7, _)] rfl ?_
        refine ks_goto (tgt := 13) dX5_load_76 (by decide) ?_
        have e1 : 8 * (m + 1) / 29 = 8 * m / 29 := by omega
        have e2 : 8 * (m + 1) % 29 = 8 * m % 29 + 8 := by omega
        have h7 := ih (m + 1) S1 (by omega) hu ho1 (by rw [e1]; exact hc)
        unfold ldB at h7
        rw [e1, e2] at h7
        exact ks_sub [(0, _), (1, _), (2, _), (3, _), (4, _), (6, _), (7, _), (8, _)] rfl h7
      · refine ks_aload_n dX5_load_47 rfl rfl ?_
        refine ks_getf (T := TX5) (kf := 0) kx_121 rfl in_X5 cl_X5 (by decide) ho1 rfl dX5_load_48 rfl ?_
        refine ks_iload dX5_load_51 rfl rfl ?_
        refine ks_lload dX5_load_53 rfl rfl ?_
        refine ks_ldc2 dX5_load_55 kx_120 rfl ?_
        refine ks_tl (y := lN 536870911) rfl ?_
        refine ks_landN (k := 29) (p := 536870912) (by decide) (by decide) (by decide) (by omega) dX5_load_58 rfl ?_
        have e1 : 8 * (m + 1) / 29 = 8 * m / 29 + 1 := by omega
        have e2 : 8 * (m + 1) % 29 = 8 * m % 29 + 8 - 29 := by omega
        have e3 : V % 2 ^ (8 * (m + 1)) / 2 ^ (29 * (8 * m / 29)) % 536870912 = dL V (8 * m / 29) := dv_dig (by omega)
        refine ks_tl (y := lN (dL V (8 * m / 29))) (congrArg lN e3) ?_
        refine ks_lastNN (i := 9 * o + 8 * m / 29) (v := dL V (8 * m / 29)) hc (by omega) (by omega) dX5_load_59 rfl ?_
        refine ks_tS (by rw [layP_up]) ?_
        refine ks_incN (c := 1) (e := 9 * o + 8 * m / 29 + 1) dX5_load_60 rfl (by decide) rfl (by decide) rfl ?_
        refine ks_sub [(7, _), (0, _), (1, _), (2, _), (3, _), (4, _), (6, _), (8, _)] rfl ?_
        refine ks_lload dX5_load_63 rfl rfl ?_
        refine ks_bipush (x := nI 29) dX5_load_65 (by decide) rfl ?_
        refine ks_lushrN (k := 29) (by decide) (by omega) dX5_load_67 rfl ?_
        refine ks_lstore dX5_load_68 (by decide) rfl ?_
        refine ks_sub [(4, _), (0, _), (1, _), (2, _), (3, _), (6, _), (7, _), (8, _)] rfl ?_
        refine ks_iinc dX5_load_70 rfl rfl (by decide) rfl ?_
        refine ks_sub [(6, _), (0, _), (1, _), (2, _), (3, _), (4, _), (7, _), (8, _)] rfl ?_
        refine ks_incD dX5_load_73 rfl (by decide) (by decide) rfl ?_
        refine ks_sub [(8, _), (0, _), (1, _), (2, _), (3, _), (4, _), (6, _), (7, _)] rfl ?_
        refine ks_goto (tgt := 13) dX5_load_76 (by decide) ?_
        have h7 := ih (m + 1) _ (by omega) (hu.trans (ks_up_set _ _ (by simp))) ((ks_set_ne _ _ hF.2.2.2.1).trans ho1) (by rw [e1]; exact (ks_set_same _ _ _))
        have e4 : ldB V (m + 1) = V % 2 ^ (8 * (m + 1)) / 2 ^ (29 * (8 * m / 29)) / 2 ^ 29 := by
          unfold ldB
          rw [e1, Nat.mul_succ 29, Nat.pow_add, Nat.div_div_eq_div_mul]
        rw [e1, e4, e2] at h7
        have e5 : nI (8 * m % 29 + 8 - 29) = nI (8 * m % 29 + 8) + (-29) := sub29 (by omega)
        rw [e5] at h7
        exact ks_sub [(0, _), (1, _), (2, _), (3, _), (4, _), (6, _), (7, _), (8, _)] rfl h7
  refine ks_of (by decide) rfl rfl (Nat.le_of_ble_eq_true rfl) ?_
  show ks_X l G mX5_load d 0 [(0, .ref fo), (1, .int (nI (9 * o))), (2, .ref y), (3, .int (nI i))] [] S _
  refine ks_lconst (x := lN 0) dX5_load_0 (by decide) rfl ?_
  refine ks_lstore dX5_load_1 (by decide) rfl ?_
  refine ks_sub [(4, _), (0, _), (1, _), (2, _), (3, _)] rfl ?_
  refine ks_iconst (x := nI 0) dX5_load_3 (by decide) rfl ?_
  refine ks_istore dX5_load_4 (by decide) rfl ?_
  refine ks_sub [(6, _), (0, _), (1, _), (2, _), (3, _), (4, _)] rfl ?_
  refine ks_iload_n dX5_load_6 rfl rfl ?_
  refine ks_istore dX5_load_7 (by decide) rfl ?_
  refine ks_sub [(7, _), (0, _), (1, _), (2, _), (3, _), (4, _), (6, _)] rfl ?_
  refine ks_bipush (x := nI 31) dX5_load_9 (by decide) rfl ?_
  refine ks_istore dX5_load_11 (by decide) rfl ?_
  refine ks_sub [(8, _), (0, _), (1, _), (2, _), (3, _), (4, _), (6, _), (7, _)] rfl ?_
  have h7 := loop 0 32 S (by decide) (ks_up.rf _ _) hF.1 (by rw [layP_0]; exact hF.2.1)
  rw [show ldB V 0 = 0 by unfold ldB; rw [Nat.mul_zero, Nat.pow_zero, Nat.mod_one, Nat.zero_div]] at h7
  exact ks_sub [(0, _), (1, _), (2, _), (3, _), (4, _), (6, _), (7, _), (8, _)] rfl h7
def stB (V : Nat) (g : Nat → Nat) (i k : Nat) : Nat → Nat := fun j => if i + 32 - k ≤ j ∧ j < i + 32 then V / 2 ^ (8 * (i + 31 - j)) % 256 else g j
theorem stB_0 (V : Nat) (g : Nat → Nat) (i : Nat) : stB V g i 0 = g := by
  funext j
  unfold stB
  rw [if_neg (by omega)]
theorem stB_up (V : Nat) (g : Nat → Nat) {i k : Nat} (h : k < 32) : va_up (stB V g i k) (i + 31 - k) (V / 2 ^ (8 * k) % 256) = stB V g i (k + 1) := by
  funext j
  by_cases c : j = i + 31 - k
  · subst c
    rw [va_up_self]
    unfold stB
    rw [if_pos (by omega), show i + 31 - (i + 31 - k) = k by omega]
  · rw [va_up_ne _ _ c]
    unfold stB
    by_cases d : i + 32 - k ≤ j ∧ j < i + 32
    · rw [if_pos d, if_pos (by omega)]
    · rw [if_neg d, if_neg (by omega)]
theorem kO_st {V : Nat} {g : Nat → Nat} (hg : kO g) (i k : Nat) : kO (stB V g i k) := fun j => by
  unfold stB
  split
  · exact Nat.mod_lt _ (by decide)
  · exact hg j
theorem beN_st {V : Nat} (hV : V < 2 ^ 256) (g : Nat → Nat) (i : Nat) : beN (stB V g i 32) i = V := by
  unfold beN
  rw [dg_congr (g := fun k => V / 256 ^ k % 256) (fun k hk => by
    unfold stB
    rw [if_pos (by omega), show i + 31 - (i + 31 - k) = k by omega, Nat.pow_mul])]
  have h : ∀ n, dg 256 (fun k => V / 256 ^ k % 256) n = V % 256 ^ n := by
    intro n
    induction n with
    | zero => rw [Nat.pow_zero, Nat.mod_one]; rfl
    | succ n ih => rw [dg_s, ih, Nat.pow_succ, Nat.mod_mul, Nat.mul_comm (V / 256 ^ n % 256)]
  rw [h]
  exact Nat.mod_eq_of_lt hV
set_option maxRecDepth 100000 in
set_option maxHeartbeats 2000000 in
theorem c_fd_store {l : Launch} {G : ks_G} {d : Nat} {S : ks_S} {fo fc n : Nat} {R : Nat → Nat} (hF : fdX S fo fc n R) {x y N i : Nat} {g : Nat → Nat} (hx : x < n + 5) (hy : S.2.2 y = some (kB N g)) (hN : N < 2 ^ 20) (hi : i + 32 ≤ N) (hyc : y ≠ fc) (hyo : y ≠ fo) : ks_P l G yX5_store mX5_store (d + 1) [.ref fo, .int (nI (9 * x)), .ref y, .int (nI i)] S (fun z S' => z = none ∧ ks_up S S' [y] ∧ S'.2.2 y = some (kB N (stB (R x) g i 32))) := by
  have hn := hF.2.2.1
  have bx := hF.2.2.2.2 x
  have loop : ∀ c k (S1 : ks_S), k + c = 32 → ks_up S S1 [y] → S1.2.2 y = some (kB N (stB (R x) g i k)) → ks_X l G mX5_store (d + 1) 3 [(0, .ref fo), (1, .int (nI (9 * x))), (2, .ref y), (3, .int (nI i)), (4, .int (nI k))] [] S1 (fun z S' => z = none ∧ ks_up S S' [y] ∧ S'.2.2 y = some (kB N (stB (R x) g i 32))) := by
    intro c
    induction c with
    | zero =>
      intro k S1 hk hu hy1
      have hF1 := hF.up hu (by simp only [List.mem_cons, List.not_mem_nil, or_false]; exact Ne.symm hyo) (by simp only [List.mem_cons, List.not_mem_nil, or_false]; exact Ne.symm hyc)
      refine ks_iload dX5_store_3 rfl rfl ?_
      refine ks_bipush (x := nI 32) dX5_store_5 (by decide) rfl ?_
      refine ks_icmp_geN (tgt := 37) (by omega) (by decide) dX5_store_7 (by decide) rfl (fun h1 => ?_) (fun h1 => ?_)
      · refine ks_ret rfl dX5_store_37 ?_
        obtain rfl : k = 32 := by omega
        exact ⟨rfl, hu, hy1⟩
      · omega
    | succ c ih =>
      intro k S1 hk hu hy1
      have hF1 := hF.up hu (by simp only [List.mem_cons, List.not_mem_nil, or_false]; exact Ne.symm hyo) (by simp only [List.mem_cons, List.not_mem_nil, or_false]; exact Ne.symm hyc)
      refine ks_iload dX5_store_3 rfl rfl ?_
      refine ks_bipush (x := nI 32) dX5_store_5 (by decide) rfl ?_
      refine ks_icmp_geN (tgt := 37) (by omega) (by decide) dX5_store_7 (by decide) rfl (fun h1 => ?_) (fun h1 => ?_)
      · omega
      · refine ks_aload_n dX5_store_10 rfl rfl ?_
        refine ks_iload_n dX5_store_11 rfl rfl ?_
        refine ks_bipush (x := nI 31) dX5_store_12 (by decide) rfl ?_
        refine ks_addN dX5_store_14 rfl ?_
        refine ks_iload dX5_store_15 rfl rfl ?_
        refine ks_subN (by omega) dX5_store_17 rfl ?_
        refine ks_aload_n dX5_store_18 rfl rfl ?_
        refine ks_iload_n dX5_store_19 rfl rfl ?_
        refine ks_bipush (x := nI 8) dX5_store_20 (by decide) rfl ?_
        refine ks_iload dX5_store_22 rfl rfl ?_
        refine ks_mulN dX5_store_24 rfl ?_
        refine ks_callV (n := 2) (M' := mX5_bitsAt) (c_fd_bitsAt (d := d) (x := x) (bt := 8 * k) hF1 hx (by omega)) hF1.1 cl_X5 rfl kx_1214 kx_1187 kx_1188 kx_5 kx_1189 (by decide +kernel) rfl (by decide) (Nat.le_of_ble_eq_true rfl) rfl dX5_store_25 rfl (fun r2 S2 h2 => ?_)
        obtain ⟨rfl, hS2⟩ := h2
        obtain rfl := hS2.symm
        refine ks_l2iN dX5_store_28 rfl ?_
        refine ks_i2b dX5_store_29 rfl ?_
        refine ks_bastB (i := i + 31 - k) (c := (bitW (R x) (8 * k)) % 256) hy1 rfl (by omega) (by omega) ((ks_by_i8 _).trans (ks_by_nI _)) dX5_store_30 rfl ?_
        refine ks_tS (by rw [bitW_v bx (by omega), stB_up _ _ (by omega)]) ?_
        refine ks_incN (c := 1) (e := k + 1) dX5_store_31 rfl (by decide) rfl (by decide) rfl ?_
        refine ks_sub [(4, _), (0, _), (1, _), (2, _), (3, _)] rfl ?_
        refine ks_goto (tgt := 3) dX5_store_34 (by decide) ?_
        exact ks_sub [(0, _), (1, _), (2, _), (3, _), (4, _)] rfl (ih (k + 1) _ (by omega) (hu.trans (ks_up_set _ _ (by simp))) (ks_set_same _ _ _))
  refine ks_of (by decide) rfl rfl (Nat.le_of_ble_eq_true rfl) ?_
  show ks_X l G mX5_store (d + 1) 0 [(0, .ref fo), (1, .int (nI (9 * x))), (2, .ref y), (3, .int (nI i))] [] S _
  refine ks_iconst (x := nI 0) dX5_store_0 (by decide) rfl ?_
  refine ks_istore dX5_store_1 (by decide) rfl ?_
  refine ks_sub [(4, _), (0, _), (1, _), (2, _), (3, _)] rfl ?_
  exact ks_sub [(0, _), (1, _), (2, _), (3, _), (4, _)] rfl (loop 32 0 S (by decide) (ks_up.rf _ _) (by rw [stB_0]; exact hy))
