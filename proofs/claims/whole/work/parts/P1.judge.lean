/-! THE REFERENCE: judge, to the verdict -/
abbrev LJe : List Nat := [291, 292, 293, 299, 305, 338, 344, 345, 355, 356, 357, 346, 347, 348, 349, 350, 351, 352, 353, 354, 358, 359]
abbrev FJe : List Nat := [36, 37, 38, 39, 40, 41, 55, 63, 110, 111]
theorem tg_le (b : Nat) : tg_num b ≤ tg_num 545259519 := by
  have e : tg_num 545259519 = 8388607 * 256 ^ 29 := by decide +kernel
  rw [e]
  unfold tg_num
  split
  · exact Nat.zero_le _
  · next h =>
    have h1 : b / 2 ^ 24 ≤ 32 := by omega
    have h2 : b % 256 ^ 3 ≤ 8388607 := by
      have e3 : (256 : Nat) ^ 3 = 16777216 := by decide
      have e4 : (2 : Nat) ^ 23 = 8388608 := by decide
      rw [e3]
      rw [e4] at h
      omega
    refine Nat.le_trans (Nat.div_le_div_right (Nat.mul_le_mul h2 (Nat.pow_le_pow_right (by decide) h1))) ?_
    decide +kernel
/-- the row of the block that is read -/
def pjS (S : ks_S) : Prop := ∃ (w0 : Value) (c0 : Nat) (A : Nat → Nat → Nat) (gi : Nat → Nat), S.2.2 346 = some (.inr (16, [w0, .int (nI c0), .ref 347, .ref 348, .ref 349, .ref 350, .ref 351, .ref 352, .ref 353])) ∧ (∀ r, r < 6 → S.2.2 (347 + r) = some (kN 12 (A r))) ∧ S.2.2 353 = some (kB 384 gi) ∧ kO gi
def rjE (S S1 : ks_S) (V V1 : Nat → Value) : Prop := pbK LJe FJe S S1 V V1 ∧ rwS S1 ∧ pjS S1 ∧ (∃ g, kO g ∧ S1.2.2 354 = some (kB 32 g)) ∧ buX S1 V1 531 1600 110 []
theorem ffF_lt (B : Nat → Bk) (M : List Nat) (q : Nat) : ffF B M q < 20 := by
  have le : rtF M (bkH (B q) + 1) < 11 := by
    unfold rtF
    split
    · decide
    · split
      · decide
      · split
        · exact Nat.lt_trans (r1F_lt _ _ _) (by decide)
        · split
          · decide
          · split <;> decide
  have h3 := rhF_le (B := B) (M := M) (q := q)
  unfold ffF
  split <;> omega
set_option maxRecDepth 100000 in
set_option maxHeartbeats 800000 in
theorem c_md_refuse {l : Launch} {G : ks_G} {d : Nat} {S : ks_S} {V : Nat → Value} {c : Nat} (hO : S.2.2 290 = some (rfE V)) : ks_P l G yX16_refuse mX16_refuse d [.ref 290, .int (nI c)] S (fun z S' => z = some (.int (nI 0)) ∧ ∃ V', pbK [] [55, 111] S S' V V' ∧ V' 55 = .int (nI c) ∧ V' 111 = .int (nI 1)) := by
  refine ks_of (by decide) rfl rfl (Nat.le_of_ble_eq_true rfl) ?_
  show ks_X l G mX16_refuse d 0 [(0, .ref 290), (1, .int (nI c))] [] S _
  refine ks_aload_n dX16_refuse_0 rfl rfl ?_
  refine ks_iload_n dX16_refuse_1 rfl rfl ?_
  refine ks_putf (T := TX16) (kf := 55) kx_2423 rfl in_X16 tyX16_ok nmX16 cl_X16 (by decide) hO (Nat.le_of_ble_eq_true rfl) rfl rfl rfl rfl dX16_refuse_2 rfl ?_
  refine md_put mdp_55 ?_
  refine ks_aload_n dX16_refuse_5 rfl rfl ?_
  refine ks_iconst (x := nI 1) dX16_refuse_6 (by decide) rfl ?_
  refine ks_putf (T := TX16) (kf := 111) kx_2479 rfl in_X16 tyX16_ok nmX16 cl_X16 (by decide) (ks_set_same _ _ _) (Nat.le_of_ble_eq_true rfl) rfl rfl rfl rfl dX16_refuse_7 rfl ?_
  refine md_put mdp_111 ?_
  refine ks_iconst (x := nI 0) dX16_refuse_10 (by decide) rfl ?_
  refine ks_iret rfl dX16_refuse_11 ?_
  exact ⟨rfl, _, ⟨(ks_up_set _ _ (by decide)).trans (ks_up_set _ _ (by decide)), ks_set_same _ _ _, fun k hk => (va_up_ne _ _ (fun e => hk (by rw [e]; decide))).trans (va_up_ne _ _ (fun e => hk (by rw [e]; decide)))⟩, (va_up_ne _ _ (by decide)).trans (va_up_self _ _ _), va_up_self _ _ _⟩
theorem rwS_o {S S1 : ks_S} (h : rwS S) (hu : ks_up S S1 [290]) : rwS S1 := by
  have n : ∀ {a : Nat}, a ≠ 290 → a ∉ [290] := fun h => by rw [List.mem_singleton]; exact h
  obtain ⟨⟨hM, g5, k5, h5⟩, q1, ⟨x2, q2⟩, ⟨x3, q3⟩, ⟨x4, q4⟩, ⟨f5, q5⟩, ⟨f6, q6⟩, ⟨g7, k7, q7⟩, ⟨g8, k8, q8⟩, ⟨g9, k9, q9⟩, ⟨xa, qa⟩, xb, qb⟩ := h
  exact ⟨⟨hM.up hu (by decide), g5, k5, hu.at h5 (by decide)⟩, q1.up hu (by decide), ⟨x2, q2.up hu (by decide)⟩, ⟨x3, q3.up hu (by decide)⟩, ⟨x4, q4.up hu (by decide)⟩, ⟨f5, hu.at q5 (by decide)⟩, ⟨f6, hu.at q6 (by decide)⟩, ⟨g7, k7, hu.at q7 (by decide)⟩, ⟨g8, k8, hu.at q8 (by decide)⟩, ⟨g9, k9, hu.at q9 (by decide)⟩, ⟨xa, qa.up hu (by decide)⟩, xb, qb.up hu (by decide)⟩
theorem pjS.up {S S1 : ks_S} {L : List Nat} (h : pjS S) (hu : ks_up S S1 L) (hL : ∀ x ∈ L, x < 346 ∨ 353 < x) : pjS S1 := by
  obtain ⟨w0, c0, A, gi, h1, h2, h3, h4⟩ := h
  have n : ∀ {a : Nat}, 346 ≤ a → a ≤ 353 → a ∉ L := fun h5 h6 hm => by have := hL _ hm; omega
  exact ⟨w0, c0, A, gi, hu.at h1 (n (by decide) (by decide)), fun r hr => hu.at (h2 r hr) (n (by omega) (by omega)), hu.at h3 (n (by decide) (by decide)), h4⟩
theorem pjS_o {S S1 : ks_S} (h : pjS S) (hu : ks_up S S1 [290]) : pjS S1 := h.up hu (by decide)
theorem rwS.w {S S1 : ks_S} {t : Nat} (h : rwS S) (hu : ks_up S S1 [t]) (ht : t = 354 ∨ (t = 358 ∧ ∃ x, wA S1 358 x) ∨ (t = 359 ∧ ∃ x, wA S1 359 x)) : rwS S1 := by
  have n : ∀ {a : Nat}, a < 354 ∨ 359 < a ∨ (354 < a ∧ a < 358) → a ∉ [t] := fun h => by rw [List.mem_singleton]; omega
  obtain ⟨⟨hM, g5, k5, h5⟩, q1, ⟨x2, q2⟩, ⟨x3, q3⟩, ⟨x4, q4⟩, ⟨f5, q5⟩, ⟨f6, q6⟩, ⟨g7, k7, q7⟩, ⟨g8, k8, q8⟩, ⟨g9, k9, q9⟩, ⟨xa, qa⟩, xb, qb⟩ := h
  refine ⟨⟨hM.up hu (fun x hx => by rw [List.mem_singleton] at hx; omega), g5, k5, hu.at h5 (n (by decide))⟩, q1.up hu (n (by decide)), ⟨x2, q2.up hu (n (by decide))⟩, ⟨x3, q3.up hu (n (by decide))⟩, ⟨x4, q4.up hu (n (by decide))⟩, ⟨f5, hu.at q5 (n (by decide))⟩, ⟨f6, hu.at q6 (n (by decide))⟩, ⟨g7, k7, hu.at q7 (n (by decide))⟩, ⟨g8, k8, hu.at q8 (n (by decide))⟩, ⟨g9, k9, hu.at q9 (n (by decide))⟩, ?_, ?_⟩
  · rcases ht with rfl | ⟨rfl, h⟩ | ⟨rfl, h⟩
    · exact ⟨xa, qa.up hu (by decide)⟩
    · exact h
    · exact ⟨xa, qa.up hu (by decide)⟩
  · rcases ht with rfl | ⟨rfl, h⟩ | ⟨rfl, h⟩
    · exact ⟨xb, qb.up hu (by decide)⟩
    · exact ⟨xb, qb.up hu (by decide)⟩
    · exact h
set_option maxRecDepth 100000 in
set_option maxHeartbeats 3200000 in
theorem l_jgI {l : Launch} {G : ks_G} {d : Nat} {S : ks_S} {V : Nat → Value} (hO : S.2.2 290 = some (rfE V)) {T : List Nat} (hB : buX S V 531 1600 110 T) {n : Nat} {B : Nat → Bk} (v47 : V 47 = .int (nI n)) (hR : rbS S n B) (hW : chW n B) (hH : rbH n B) (hhei : ∀ i, i < n → bkH (B i) < 700) (hw : rwS S) (hP : pjS S) (h354 : ∃ g, kO g ∧ S.2.2 354 = some (kB 32 g)) {P9 : Option Value → ks_S → Prop} (kR : ∀ (S1 : ks_S) (V1 : Nat → Value) (r : Nat), rjE S S1 V V1 → inF B n T = nI r → 0 < r → r < 20 → V1 55 = .int (nI r) → V1 111 = .int (nI 1) → P9 (some (.int (nI 0))) S1) (k3 : ∀ (S1 : ks_S) (V1 : Nat → Value), rjE S S1 V V1 → inF B n T = -1 → V1 55 = V 55 → V1 111 = .int (nI 0) → P9 (some (.int (nI 3))) S1) (k4 : ∀ (S1 : ks_S) (V1 : Nat → Value), rjE S S1 V V1 → inF B n T = -2 → V1 55 = V 55 → V1 111 = .int (nI 0) → P9 (some (.int (nI 4))) S1) (k0 : ∀ (S1 : ks_S) (V1 : Nat → Value) (q : Nat) (g : Nat → Nat), rjE S S1 V V1 → inF B n T = nI 0 → inQ B n T = q + 1 → q < n → blk_ (mg T) T.length = true → tg_num (btB T) ≠ 0 → V1 55 = V 55 → V1 111 = .int (nI 0) → S1.2.2 531 = some (kB 1600 g) → kO g → (∀ j, j < T.length → g j = mg T j) → ks_X l G mX16_judge (d + 15) 172 [(0, .ref 290), (1, .int (nI T.length)), (2, .int (nI q))] [] S1 P9) : ks_X l G mX16_judge (d + 15) 0 [(0, .ref 290)] [] S P9 := by
  obtain ⟨vT, g, eT, kg, hT, em⟩ := id hB
  have hn61 := hR.2.2
  obtain ⟨w0, c0, A0, gi0, hp0, hpr, hpi, kgi0⟩ := hP
  obtain ⟨gj, kj, h354⟩ := h354
  obtain ⟨⟨hM, g5, k5, h305⟩, h337, -, -, -, -, -, -, -, -, ⟨x358, w358⟩, x359, w359⟩ := id hw
  refine ks_aload_n dX16_judge_0 rfl rfl ?_
  refine ks_getf (T := TX16) (kf := 110) kx_2478 rfl in_X16 cl_X16 (by decide) hO rfl dX16_judge_1 rfl ?_
  refine ks_tv vT ?_
  refine ks_istore_n dX16_judge_4 (by decide) rfl ?_
  refine ks_sub [(1, _), (0, _)] rfl ?_
  refine ks_aload_n dX16_judge_5 rfl rfl ?_
  refine ks_iconst (x := nI 0) dX16_judge_6 (by decide) rfl ?_
  refine ks_putf (T := TX16) (kf := 110) kx_2478 rfl in_X16 tyX16_ok nmX16 cl_X16 (by decide) hO (Nat.le_of_ble_eq_true rfl) rfl rfl rfl rfl dX16_judge_7 rfl ?_
  refine md_put mdp_110 ?_
  refine ks_aload_n dX16_judge_10 rfl rfl ?_
  refine ks_iconst (x := nI 0) dX16_judge_11 (by decide) rfl ?_
  refine ks_putf (T := TX16) (kf := 111) kx_2479 rfl in_X16 tyX16_ok nmX16 cl_X16 (by decide) (ks_set_same _ _ _) (Nat.le_of_ble_eq_true rfl) rfl rfl rfl rfl dX16_judge_12 rfl ?_
  refine md_put mdp_111 ?_
  refine ks_aload_n dX16_judge_15 rfl rfl ?_
  refine ks_aload_n dX16_judge_16 rfl rfl ?_
  refine ks_getf (T := TX16) (kf := 109) kx_2477 rfl in_X16 cl_X16 (by decide) (ks_set_same _ _ _) rfl dX16_judge_17 rfl ?_
  refine ks_iload_n dX16_judge_20 rfl rfl ?_
  refine ks_aload_n dX16_judge_21 rfl rfl ?_
  refine ks_getf (T := TX16) (kf := 56) kx_2424 rfl in_X16 cl_X16 (by decide) (ks_set_same _ _ _) rfl dX16_judge_22 rfl ?_
  refine ks_nm (fun T1 e1 => ?_)
  have u1 : ks_up S T1 [290] := by rw [e1]; exact ks_upL (ks_up_set _ _ (List.mem_singleton.mpr rfl)) (List.mem_singleton.mpr rfl)
  obtain ⟨V1, eV1⟩ : ∃ v, v = va_up (va_up V 110 (.int (nI 0))) 111 (.int (nI 0)) := ⟨_, rfl⟩
  have o1 : T1.2.2 290 = some (rfE V1) := by rw [e1, eV1]; exact ks_set_same _ _ _
  clear e1
  have vv1 : ∀ k, k ≠ 110 → k ≠ 111 → V1 k = V k := fun k h1 h2 => by rw [eV1, va_up_ne _ _ h2, va_up_ne _ _ h1]
  have v1a : V1 110 = .int (nI 0) := by rw [eV1]; exact (va_up_ne _ _ (by decide)).trans (va_up_self _ _ _)
  have v1b : V1 111 = .int (nI 0) := by rw [eV1]; exact va_up_self _ _ _
  have t1 : ∀ {a : Nat} {e : ks_E}, S.2.2 a = some e → a ≠ 290 → T1.2.2 a = some e := fun h1 h2 => u1.at h1 (by rw [List.mem_singleton]; exact h2)
  have ebl : blk_ g T.length = blk_ (mg T) T.length := blk_cg (fun j hj => bytL_mg em hj)
  refine ks_callV (n := 3) (M' := mX16_parse) (c_md_parse (P := 346) (y := 531) (n := T.length) kg hT (by decide) (by decide) (by decide) (t1 eT (by decide)) (by decide) o1 (t1 hp0 (by decide)) (fun r hr => t1 (hpr r hr) (by omega)) (t1 hpi (by decide)) kgi0 (hM.up u1 (by decide)) (t1 h305 (by decide)) k5) o1 cl_X16 rfl kx_2089 kx_2091 kxp_72 kx_30 kx_2092 (by decide +kernel) rfl (by decide) (Nat.le_of_ble_eq_true rfl) rfl dX16_judge_25 rfl (fun z2 T2 y2 => ?_)
  obtain ⟨rfl, u2, ⟨V2, o2, hv2⟩, mh2, ⟨g52, k52, h52⟩, c2, A2, gi2, X2, hc2⟩ := y2
  rw [ebl] at hc2 ⊢
  have nP : ∀ {a : Nat}, (a < 290 ∨ (293 < a ∧ a < 299) ∨ (299 < a ∧ a < 305) ∨ (305 < a ∧ a < 346) ∨ 353 < a) → a ∉ LPr 346 := fun h hm => by
    simp only [LPr, List.mem_cons, List.not_mem_nil, or_false] at hm
    omega
  have t2 : ∀ {a : Nat} {e : ks_E}, S.2.2 a = some e → ((293 < a ∧ a < 299) ∨ (299 < a ∧ a < 305) ∨ (305 < a ∧ a < 346) ∨ 353 < a) → T2.2.2 a = some e := fun h1 h2 => u2.at (t1 h1 (by omega)) (nP (by omega))
  have K2 : pbK LJe FJe S T2 V V2 := ⟨(u1.mono (by decide)).trans (u2.mono (fun a ha => by
    simp only [LPr, LJe, List.mem_cons, List.not_mem_nil, or_false] at ha ⊢
    omega)), o2, fun k hk => by
    simp only [FJe, List.mem_cons, List.not_mem_nil, or_false, not_or] at hk
    rw [hv2 k (by omega), vv1 k (by omega) (by omega)]⟩
  have w2 : ∀ {a v : Nat}, wA S a v → ((293 < a ∧ a < 299) ∨ (299 < a ∧ a < 305) ∨ (305 < a ∧ a < 346) ∨ 353 < a) → wA T2 a v := fun h h2 => by
    obtain ⟨gg, b1, b2⟩ := h
    exact ⟨gg, t2 b1 h2, b2⟩
  have W2 : rwS T2 := by
    obtain ⟨-, q1, ⟨x2, q2⟩, ⟨x3, q3⟩, ⟨x4, q4⟩, ⟨f5, q5⟩, ⟨f6, q6⟩, ⟨g7, k7, q7⟩, ⟨g8, k8, q8⟩, ⟨g9, k9, q9⟩, ⟨xa, qa⟩, xb, qb⟩ := hw
    exact ⟨⟨mh2, g52, k52, h52⟩, w2 q1 (by decide), ⟨x2, w2 q2 (by decide)⟩, ⟨x3, w2 q3 (by decide)⟩, ⟨x4, w2 q4 (by decide)⟩, ⟨f5, t2 q5 (by decide)⟩, ⟨f6, t2 q6 (by decide)⟩, ⟨g7, k7, t2 q7 (by decide)⟩, ⟨g8, k8, t2 q8 (by decide)⟩, ⟨g9, k9, t2 q9 (by decide)⟩, ⟨xa, w2 qa (by decide)⟩, xb, w2 qb (by decide)⟩
  have P2 : pjS T2 := ⟨_, c2, A2, gi2, X2.1, fun r hr => X2.2.1 r hr, X2.2.2.1, X2.2.2.2⟩
  have v2a : V2 110 = .int (nI 0) := (hv2 110 (by decide)).trans v1a
  have v2b : V2 111 = .int (nI 0) := (hv2 111 (by decide)).trans v1b
  have v2c : V2 55 = V 55 := (hv2 55 (by decide)).trans (vv1 55 (by decide) (by decide))
  have e531 := t2 eT (by decide)
  have e354 := t2 h354 (by decide)
  have v2n : V2 47 = .int (nI n) := (K2.2.2 47 (by decide)).trans v47
  refine ks_if_neZ (tgt := 37) dX16_judge_28 (by decide) rfl (fun hb => ?_) (fun hb => ?_)
  · obtain ⟨ec2, hp2⟩ := hc2 hb
    have hM80 : 80 < T.length := (blk_b hb).1
    have ec : c2 = mg T 80 := ec2.trans (bytL_mg em (by omega))
    rw [ec] at X2
    have pd2 : pdK T2 346 531 1600 T := ⟨g, A2, gi2, ⟨e531, kg⟩, ⟨hT, by decide, by decide, by decide, by decide⟩, fun j hj => bytL_mg em hj, hb, X2, pdA_of (fun j hj => bytL_mg em hj) hb (fun t ht => hp2 t (by rw [ec]; exact ht))⟩
    refine ks_aload_n dX16_judge_37 rfl rfl ?_
    refine ks_aload_n dX16_judge_38 rfl rfl ?_
    refine ks_getf (T := TX16) (kf := 109) kx_2477 rfl in_X16 cl_X16 (by decide) o2 rfl dX16_judge_39 rfl ?_
    refine ks_iconst (x := nI 0) dX16_judge_42 (by decide) rfl ?_
    refine ks_bipush (x := nI 80) dX16_judge_43 (by decide) rfl ?_
    refine ks_aload_n dX16_judge_45 rfl rfl ?_
    refine ks_getf (T := TX16) (kf := 57) kx_2425 rfl in_X16 cl_X16 (by decide) o2 rfl dX16_judge_46 rfl ?_
    refine ks_iconst (x := nI 0) dX16_judge_49 (by decide) rfl ?_
    refine ks_callV (n := 5) (M' := mX16_again) (c_md_again (d := d + 11) o2 mh2 h52 k52 e531 kg (i := 0) (n := 80) (by omega) (by decide) e354 kj (oa := 0) (by decide) (by decide) (by decide) (by decide)) o2 cl_X16 rfl kx_1988 kx_1990 kxp_61 kx_30 kx_1991 (by decide +kernel) rfl (by decide) (Nat.le_of_ble_eq_true rfl) rfl dX16_judge_50 rfl (fun z3 T3 y3 => ?_)
    obtain ⟨rfl, u3, mh3, f53, e3⟩ := y3
    have o3 := u3.at o2 (by decide)
    have eh : ∀ j, j < 32 → ks_pt (twice_ (fun k => g (0 + k)) 80) gj 0 32 j = hsB T j := fun j hj => by
      have e9 := ks_pt_in (twice_ (fun k => g (0 + k)) 80) gj 0 32 hj
      rw [Nat.zero_add] at e9
      rw [e9]
      unfold hsB
      rw [twice_congr (m' := mg T) (fun y hy => by rw [Nat.zero_add]; exact bytL_mg em (by omega))]
    have k3' : kO (ks_pt (twice_ (fun k => g (0 + k)) 80) gj 0 32) := kO_pt (kO_twice _ _) kj _ _
    obtain ⟨gh, egh⟩ : ∃ v, v = ks_pt (twice_ (fun k => g (0 + k)) 80) gj 0 32 := ⟨_, rfl⟩
    rw [← egh] at e3 k3' eh
    have K3 : pbK LJe FJe S T3 V V2 := ⟨K2.1.trans (u3.mono (by decide)), o3, K2.2.2⟩
    have W3 : rwS T3 := by
      obtain ⟨-, q1, ⟨x2, q2⟩, ⟨x3, q3⟩, ⟨x4, q4⟩, ⟨f5, q5⟩, ⟨f6, q6⟩, ⟨g7, k7, q7⟩, ⟨g8, k8, q8⟩, ⟨g9, k9, q9⟩, ⟨xa, qa⟩, xb, qb⟩ := W2
      exact ⟨⟨mh3, f53⟩, q1.up u3 (by decide), ⟨x2, q2.up u3 (by decide)⟩, ⟨x3, q3.up u3 (by decide)⟩, ⟨x4, q4.up u3 (by decide)⟩, ⟨f5, u3.at q5 (by decide)⟩, ⟨f6, u3.at q6 (by decide)⟩, ⟨g7, k7, u3.at q7 (by decide)⟩, ⟨g8, k8, u3.at q8 (by decide)⟩, ⟨g9, k9, u3.at q9 (by decide)⟩, ⟨xa, qa.up u3 (by decide)⟩, xb, qb.up u3 (by decide)⟩
    have P3 : pjS T3 := P2.up u3 (by decide)
    have t3 := u3.at e531 (by decide)
    have pd3 : pdK T3 346 531 1600 T := pd2.up u3 (by decide)
    have R3 : rbS T3 n B := hR.up K3.1 (fun x hx => by simp only [LJe, List.mem_cons, List.not_mem_nil, or_false] at hx; omega)
    refine ks_aload_n dX16_judge_53 rfl rfl ?_
    refine ks_aload_n dX16_judge_54 rfl rfl ?_
    refine ks_getf (T := TX16) (kf := 57) kx_2425 rfl in_X16 cl_X16 (by decide) o3 rfl dX16_judge_55 rfl ?_
    refine ks_iconst (x := nI 0) dX16_judge_58 (by decide) rfl ?_
    refine ks_callV (n := 2) (M' := mX16_findBlock) (c_md_findBlock (y := 354) (a := 0) o3 R3 v2n e3 k3' (by decide) (by decide)) o3 cl_X16 rfl kx_2816 kx_2818 kxp_134 kx_30 kx_2819 (by decide +kernel) rfl (by decide) (Nat.le_of_ble_eq_true rfl) rfl dX16_judge_59 rfl (fun z4 T4 y4 => ?_)
    obtain ⟨rfl, hT4⟩ := y4
    obtain rfl := hT4.symm
    have eK : plD (fun i => sm32 (hsB (bkM (B i))) 0 (fun j => gh (0 + j)) 0) n 0 = inK B n T := plD_congr (fun i _ _ => sm32_c (fun _ _ => rfl) (fun j hj => by rw [Nat.zero_add, Nat.zero_add]; exact eh j hj))
    rw [eK]
    obtain ⟨pk, epk⟩ : ∃ v, v = inK B n T := ⟨_, rfl⟩
    have hpk : pk ≤ n := by rw [epk]; have := plD_b (f := fun i => sm32 (hsB (bkM (B i))) 0 (hsB T) 0) (c := n) (i := 0); unfold inK; omega
    rw [← epk]
    refine ks_if_ltD (tgt := 67) (by omega) dX16_judge_62 (by decide) rfl (fun h3 => ?_) (fun h3 => ?_)
    · obtain ⟨x59, w59⟩ := W3.2.2.2.2.2.2.2.2.2.2.2
      obtain ⟨x58, w58⟩ := W3.2.2.2.2.2.2.2.2.2.2.1
      refine ks_aload_n dX16_judge_67 rfl rfl ?_
      refine ks_getf (T := TX16) (kf := 57) kx_2425 rfl in_X16 cl_X16 (by decide) o3 rfl dX16_judge_68 rfl ?_
      refine ks_iconst (x := nI 0) dX16_judge_71 (by decide) rfl ?_
      refine ks_iconst (x := nI 0) dX16_judge_72 (by decide) rfl ?_
      refine ks_ti (y := ks_bo false) rfl ?_
      refine ks_aload_n dX16_judge_73 rfl rfl ?_
      refine ks_getf (T := TX16) (kf := 62) kx_2430 rfl in_X16 cl_X16 (by decide) o3 rfl dX16_judge_74 rfl ?_
      refine ks_callS (n := 4) (M' := mX16_fromBytes) (c_md_fromL (d := d + 14) e3 k3' (by decide) (by decide) w59 (by decide)) kx_2043 kx_2044 kx_30 kx_2045 (by decide +kernel) rfl (by decide) (Nat.le_of_ble_eq_true rfl) rfl dX16_judge_77 rfl (fun z5 T5 y5 => ?_)
      obtain ⟨rfl, u5, w5⟩ := y5
      have eA : dg 256 (fbF false gh 0) 32 = dg 256 (hsB T) 32 := dg_congr (fun k hk => by
        refine Eq.trans (if_neg (by decide)) ?_
        rw [Nat.zero_add]
        exact eh k hk)
      rw [eA] at w5
      have o5 := u5.at o3 (by decide)
      have pd5 : pdK T5 346 531 1600 T := pd3.up u5 (by decide)
      refine ks_aload_n dX16_judge_80 rfl rfl ?_
      refine ks_aload_n dX16_judge_81 rfl rfl ?_
      refine ks_getf (T := TX16) (kf := 109) kx_2477 rfl in_X16 cl_X16 (by decide) o5 rfl dX16_judge_82 rfl ?_
      refine ks_bipush (x := nI 72) dX16_judge_85 (by decide) rfl ?_
      refine ks_iconst (x := nI 4) dX16_judge_87 (by decide) rfl ?_
      refine ks_callV (n := 3) (M' := mX16_number) (c_pd_num pd5 (i := 72) (k := 4) (by omega) (by decide)) o5 cl_X16 rfl kx_2020 kx_2022 kxp_68 kx_30 kx_2023 (by decide +kernel) rfl (by decide) (Nat.le_of_ble_eq_true rfl) rfl dX16_judge_88 rfl (fun z6 T6 y6 => ?_)
      obtain ⟨rfl, hT6⟩ := y6
      obtain rfl := hT6.symm
      refine ks_l2iN dX16_judge_91 rfl ?_
      refine ks_aload_n dX16_judge_92 rfl rfl ?_
      refine ks_getf (T := TX16) (kf := 61) kx_2429 rfl in_X16 cl_X16 (by decide) o5 rfl dX16_judge_93 rfl ?_
      refine ks_callS (n := 2) (M' := mX16_target) (c_md_target (b := ks_num (mg T) 72 4) (ks_num_lt pd5.kO 4 72) (w58.up u5 (by decide)) (by decide)) kx_1947 kx_1948 kx_30 kx_1949 (by decide +kernel) rfl (by decide) (Nat.le_of_ble_eq_true rfl) rfl dX16_judge_96 rfl (fun z7 T7 y7 => ?_)
      obtain ⟨rfl, u7, w7⟩ := y7
      rw [show ks_num (mg T) 72 4 = btB T from rfl] at w7 ⊢
      have o7 := u7.at o5 (by decide)
      have w57 := w5.up u7 (by decide)
      have K7 : pbK LJe FJe S T7 V V2 := ⟨(K3.1.trans (u5.mono (by decide))).trans (u7.mono (by decide)), o7, K3.2.2⟩
      have W7 : rwS T7 := (W3.w u5 (Or.inr (Or.inr ⟨rfl, _, w5⟩))).w u7 (Or.inr (Or.inl ⟨rfl, _, w7⟩))
      have P7 : pjS T7 := (P3.up u5 (by decide)).up u7 (by decide)
      have e37 := u7.at (u5.at e3 (by decide)) (by decide)
      have t7 := u7.at (u5.at t3 (by decide)) (by decide)
      have R7 : rbS T7 n B := hR.up K7.1 (fun x hx => by simp only [LJe, List.mem_cons, List.not_mem_nil, or_false] at hx; omega)
      have pd7 : pdK T7 346 531 1600 T := pd5.up u7 (by decide)
      have vkb : V2 110 = .int (nI 0) := v2a
      have vkc : V2 110 = .int (nI 0) := v2a
      have inf2 : ¬ (tg_num (btB T) ≠ 0 ∧ dg 256 (hsB T) 32 ≤ tg_num (btB T)) → inF B n T = nI 2 := fun h => by
        unfold inF
        rw [if_neg (by rw [hb]; decide), if_neg (by rw [← epk]; exact fun h9 => h9 h3), if_pos h]
      refine ks_if_eqZ (tgt := 130) dX16_judge_99 (by decide) rfl (fun h4 => ?_) (fun h4 => ?_)
      · refine ks_aload_n dX16_judge_130 rfl rfl ?_
        refine ks_iconst (x := nI 2) dX16_judge_131 (by decide) rfl ?_
        refine ks_callV (n := 1) (M' := mX16_refuse) (c_md_refuse K7.2.1) o7 cl_X16 rfl kx_2812 kx_2814 kxp_133 kx_30 kx_2815 (by decide +kernel) rfl (by decide) (Nat.le_of_ble_eq_true rfl) rfl dX16_judge_132 rfl (fun zb Tb yb => ?_)
        obtain ⟨rfl, Vb, Jb, vab, vbb⟩ := yb
        refine ks_iret rfl dX16_judge_135 ?_
        refine kR Tb Vb 2 ⟨K7.trans (Jb.mono (fun a h => absurd h List.not_mem_nil) (by decide)), rwS_o W7 Jb.1, pjS_o P7 Jb.1, ⟨_, (⟨k3', e37⟩ : kO gh ∧ _).1, Jb.1.at (⟨k3', e37⟩ : kO gh ∧ _).2 (by decide)⟩, (Jb.2.2 110 (by decide)).trans vkb, g, Jb.1.at t7 (by decide), kg, Nat.zero_le _, rfl⟩ (inf2 (fun h => (of_decide_eq_false h4) h.1)) (by decide) (by decide) vab vbb
      · have hnz : tg_num (btB T) ≠ 0 := of_decide_eq_true h4
        refine ks_aload_n dX16_judge_102 rfl rfl ?_
        refine ks_getf (T := TX16) (kf := 61) kx_2429 rfl in_X16 cl_X16 (by decide) o7 rfl dX16_judge_103 rfl ?_
        refine ks_aload_n dX16_judge_106 rfl rfl ?_
        refine ks_getf (T := TX16) (kf := 42) kx_2410 rfl in_X16 cl_X16 (by decide) o7 rfl dX16_judge_107 rfl ?_
        refine ks_callS (n := 2) (M' := mX15_compare) (c_rg_compare (d := d + 14) w7 W7.2.1 (by decide) (by decide)) kx_2035 kx_1870 kx_33 kx_1871 (by decide +kernel) rfl (by decide) (Nat.le_of_ble_eq_true rfl) rfl dX16_judge_110 rfl (fun z8 T8 y8 => ?_)
        obtain ⟨rfl, hT8⟩ := y8
        obtain rfl := hT8.symm
        refine ks_if_gt (tgt := 130) dX16_judge_113 (by decide) rfl (fun h5 => ?_) (fun h5 => ?_)
        · exact absurd (tg_le _) (cmpN_gt.mp h5)
        · refine ks_aload_n dX16_judge_116 rfl rfl ?_
          refine ks_getf (T := TX16) (kf := 62) kx_2430 rfl in_X16 cl_X16 (by decide) o7 rfl dX16_judge_117 rfl ?_
          refine ks_aload_n dX16_judge_120 rfl rfl ?_
          refine ks_getf (T := TX16) (kf := 61) kx_2429 rfl in_X16 cl_X16 (by decide) o7 rfl dX16_judge_121 rfl ?_
          refine ks_callS (n := 2) (M' := mX15_compare) (c_rg_compare (d := d + 14) w57 w7 (by decide) (by decide)) kx_2035 kx_1870 kx_33 kx_1871 (by decide +kernel) rfl (by decide) (Nat.le_of_ble_eq_true rfl) rfl dX16_judge_124 rfl (fun z9 T9 y9 => ?_)
          obtain ⟨rfl, hT9⟩ := y9
          obtain rfl := hT9.symm
          refine ks_if_le (tgt := 136) dX16_judge_127 (by decide) rfl (fun h6 => ?_) (fun h6 => ?_)
          · have hle := cmpN_le.mp h6
            refine ks_aload_n dX16_judge_136 rfl rfl ?_
            refine ks_aload_n dX16_judge_137 rfl rfl ?_
            refine ks_getf (T := TX16) (kf := 109) kx_2477 rfl in_X16 cl_X16 (by decide) o7 rfl dX16_judge_138 rfl ?_
            refine ks_iconst (x := nI 4) dX16_judge_141 (by decide) rfl ?_
            refine ks_callV (n := 2) (M' := mX16_findBlock) (c_md_findBlock (y := 531) (a := 4) o7 R7 v2n t7 kg (by decide) (by decide)) o7 cl_X16 rfl kx_2816 kx_2818 kxp_134 kx_30 kx_2819 (by decide +kernel) rfl (by decide) (Nat.le_of_ble_eq_true rfl) rfl dX16_judge_142 rfl (fun za Ta ya => ?_)
            obtain ⟨rfl, hTa⟩ := ya
            obtain rfl := hTa.symm
            have eQ : plD (fun i => sm32 (hsB (bkM (B i))) 0 (fun j => g (4 + j)) 0) n 0 = inQ B n T := plD_congr (fun i _ _ => sm32_c (fun _ _ => rfl) (fun j hj => by rw [Nat.zero_add]; exact bytL_mg em (by omega)))
            rw [eQ]
            obtain ⟨pq, epq⟩ : ∃ v, v = inQ B n T := ⟨_, rfl⟩
            have hpq : pq ≤ n := by rw [epq]; have := plD_b (f := fun i => sm32 (hsB (bkM (B i))) 0 (fun j => mg T (4 + j)) 0) (c := n) (i := 0); unfold inQ; omega
            rw [← epq]
            refine ks_istore_n dX16_judge_145 (by decide) rfl ?_
            refine ks_sub [(2, _), (0, _), (1, _)] rfl ?_
            refine ks_iload_n dX16_judge_146 rfl rfl ?_
            refine ks_if_geD (tgt := 152) (by omega) dX16_judge_147 (by decide) rfl (fun h7 => ?_) (fun h7 => ?_)
            · obtain ⟨q, rfl⟩ : ∃ q, pq = q + 1 := ⟨pq - 1, by omega⟩
              refine ks_sub [(0, _), (1, _), (2, .int (nI q))] (by rw [← nI_pred q]; rfl) ?_
              have hq : q < n := by omega
              have hh := hhei q hq
              have infq : inF B n T = nI (ffF B T q) := by
                unfold inF
                rw [if_neg (by rw [hb]; decide), if_neg (by rw [← epk]; exact fun h9 => h9 h3), if_neg (fun h => h ⟨hnz, hle⟩), if_neg (by rw [← epq]; exact Nat.succ_ne_zero q), ← epq, Nat.add_sub_cancel]
                unfold ffF
                by_cases h : rhF B T q ≠ 0
                · rw [if_pos h, if_pos h]
                · rw [if_neg h, if_neg h]
              refine ks_aload_n dX16_judge_152 rfl rfl ?_
              refine ks_aload_n dX16_judge_153 rfl rfl ?_
              refine ks_getf (T := TX16) (kf := 56) kx_2424 rfl in_X16 cl_X16 (by decide) o7 rfl dX16_judge_154 rfl ?_
              refine ks_iload_n dX16_judge_157 rfl rfl ?_
              refine ks_callV (n := 2) (M' := mX16_fault) (c_md_fault (d := d + 9) o7 pd7 R7 hq hW hH (by omega) hT W7 ⟨rfl, rfl⟩) o7 cl_X16 rfl kx_2820 kx_2822 kxp_135 kx_30 kx_2823 (by decide +kernel) rfl (by decide) (Nat.le_of_ble_eq_true rfl) rfl dX16_judge_158 rfl (fun zf Tf yf => ?_)
              obtain ⟨rfl, uf, ⟨Vf, of_, hvf⟩, Wf⟩ := yf
              obtain ⟨fe, efe⟩ : ∃ v, v = ffF B T q := ⟨_, rfl⟩
              have hfe := ffF_lt B T q
              rw [← efe] at infq hfe ⊢
              have Kf : pbK LJe FJe S Tf V Vf := K7.trans ⟨uf.mono (by decide), of_, fun k hk => hvf k (fun e => hk (by rw [e]; decide)) (fun e => hk (by rw [e]; decide)) (fun e => hk (by rw [e]; decide))⟩
              have Pf : pjS Tf := P7.up uf (by decide)
              have e3f := uf.at e37 (by decide)
              have tf := uf.at t7 (by decide)
              have vfa : Vf 110 = .int (nI 0) := (hvf 110 (by decide) (by decide) (by decide)).trans v2a
              have vkd : Vf 110 = .int (nI 0) := vfa
              refine ks_istore_n dX16_judge_161 (by decide) rfl ?_
              refine ks_sub [(3, _), (0, _), (1, _), (2, _)] rfl ?_
              refine ks_iload_n dX16_judge_162 rfl rfl ?_
              refine ks_if_eqN (tgt := 172) (by omega) dX16_judge_163 (by decide) rfl (fun h8 => ?_) (fun h8 => ?_)
              · refine ks_sub [(0, _), (1, _), (2, _)] rfl (k0 Tf Vf q g ⟨Kf, Wf, Pf, ⟨gh, k3', e3f⟩, vfa, g, tf, kg, Nat.zero_le _, rfl⟩ (by rw [infq, h8]) epq.symm hq hb hnz ((hvf 55 (by decide) (by decide) (by decide)).trans v2c) ((hvf 111 (by decide) (by decide) (by decide)).trans v2b) tf kg (fun j hj => bytL_mg em hj))
              · refine ks_aload_n dX16_judge_166 rfl rfl ?_
                refine ks_iload_n dX16_judge_167 rfl rfl ?_
                refine ks_callV (n := 1) (M' := mX16_refuse) (c_md_refuse Kf.2.1) of_ cl_X16 rfl kx_2812 kx_2814 kxp_133 kx_30 kx_2815 (by decide +kernel) rfl (by decide) (Nat.le_of_ble_eq_true rfl) rfl dX16_judge_168 rfl (fun zd Td yd => ?_)
                obtain ⟨rfl, Vd, Jd, vad, vbd⟩ := yd
                refine ks_iret rfl dX16_judge_171 ?_
                refine kR Td Vd fe ⟨Kf.trans (Jd.mono (fun a h => absurd h List.not_mem_nil) (by decide)), rwS_o Wf Jd.1, pjS_o Pf Jd.1, ⟨_, (⟨k3', e3f⟩ : kO gh ∧ _).1, Jd.1.at (⟨k3', e3f⟩ : kO gh ∧ _).2 (by decide)⟩, (Jd.2.2 110 (by decide)).trans vkd, g, Jd.1.at tf (by decide), kg, Nat.zero_le _, rfl⟩ infq (by omega) hfe vad vbd
            · refine ks_iconst (x := nI 4) dX16_judge_150 (by decide) rfl ?_
              refine ks_iret rfl dX16_judge_151 ?_
              refine k4 T7 V2 ⟨K7, W7, P7, ⟨gh, k3', e37⟩, v2a, g, t7, kg, Nat.zero_le _, rfl⟩ ?_ v2c v2b
              unfold inF
              rw [if_neg (by rw [hb]; decide), if_neg (by rw [← epk]; exact fun h9 => h9 h3), if_neg (fun h => h ⟨hnz, hle⟩), if_pos (by rw [← epq]; exact h7)]
          · refine ks_aload_n dX16_judge_130 rfl rfl ?_
            refine ks_iconst (x := nI 2) dX16_judge_131 (by decide) rfl ?_
            refine ks_callV (n := 1) (M' := mX16_refuse) (c_md_refuse K7.2.1) o7 cl_X16 rfl kx_2812 kx_2814 kxp_133 kx_30 kx_2815 (by decide +kernel) rfl (by decide) (Nat.le_of_ble_eq_true rfl) rfl dX16_judge_132 rfl (fun zc Tc yc => ?_)
            obtain ⟨rfl, Vc, Jc, vac, vbc⟩ := yc
            refine ks_iret rfl dX16_judge_135 ?_
            refine kR Tc Vc 2 ⟨K7.trans (Jc.mono (fun a h => absurd h List.not_mem_nil) (by decide)), rwS_o W7 Jc.1, pjS_o P7 Jc.1, ⟨_, (⟨k3', e37⟩ : kO gh ∧ _).1, Jc.1.at (⟨k3', e37⟩ : kO gh ∧ _).2 (by decide)⟩, (Jc.2.2 110 (by decide)).trans vkc, g, Jc.1.at t7 (by decide), kg, Nat.zero_le _, rfl⟩ (inf2 (fun h => h6 (cmpN_le.mpr h.2))) (by decide) (by decide) vac vbc
    · refine ks_iconst (x := nI 3) dX16_judge_65 (by decide) rfl ?_
      refine ks_iret rfl dX16_judge_66 ?_
      refine k3 T3 V2 ⟨K3, W3, P3, ⟨gh, k3', e3⟩, v2a, g, t3, kg, Nat.zero_le _, rfl⟩ ?_ v2c v2b
      unfold inF
      rw [if_neg (by rw [hb]; decide), if_pos (by rw [← epk]; exact h3)]
  · refine ks_aload_n dX16_judge_31 rfl rfl ?_
    refine ks_iconst (x := nI 1) dX16_judge_32 (by decide) rfl ?_
    refine ks_callV (n := 1) (M' := mX16_refuse) (c_md_refuse K2.2.1) o2 cl_X16 rfl kx_2812 kx_2814 kxp_133 kx_30 kx_2815 (by decide +kernel) rfl (by decide) (Nat.le_of_ble_eq_true rfl) rfl dX16_judge_33 rfl (fun za Ta ya => ?_)
    obtain ⟨rfl, Va, Ja, vaa, vba⟩ := ya
    refine ks_iret rfl dX16_judge_36 ?_
    refine kR Ta Va 1 ⟨K2.trans (Ja.mono (fun a h => absurd h List.not_mem_nil) (by decide)), rwS_o W2 Ja.1, pjS_o P2 Ja.1, ⟨_, (⟨kj, e354⟩ : kO gj ∧ _).1, Ja.1.at (⟨kj, e354⟩ : kO gj ∧ _).2 (by decide)⟩, (Ja.2.2 110 (by decide)).trans v2a, g, Ja.1.at e531 (by decide), kg, Nat.zero_le _, rfl⟩ (if_pos hb) (by decide) (by decide) vaa vba
