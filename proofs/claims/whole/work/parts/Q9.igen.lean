/-! THE REFERENCE: its constructor, seven and the first point -/
def gXX : Nat := 55066263022277343669578718895168534326250603453777594175500187360389116729240
def gYY : Nat := 32670510020758816978083085130507043184471273380659243275938904335757337482424
def icE : List Nat := [294, 295, 296, 297, 298, 306, 308, 309, 310, 337]
theorem icE_n {a : Nat} (h : a ∉ icE) : a < 294 ∨ 298 < a := by
  by_cases c : a < 294 ∨ 298 < a
  · exact c
  · exfalso
    have h2 : a = 294 ∨ a = 295 ∨ a = 296 ∨ a = 297 ∨ a = 298 := by omega
    rcases h2 with rfl | rfl | rfl | rfl | rfl <;> exact h (by decide)
def icQ (S0 S : ks_S) (n m : Nat) (V : Nat → Value) : Prop := S.1 = n ∧ S.2.1 = S0.2.1 + m ∧ S.2.2 290 = some (rfE V) ∧ (∀ a, 291 ≤ a → a < 545 → a ∉ icE → S.2.2 a = some (icK a)) ∧ (∀ a, a < 290 ∨ n ≤ a → S.2.2 a = S0.2.2 a) ∧ (rgF S 555 nN muN ∧ wA S 545 pP ∧ wA S 546 nN) ∧ S.2.2 294 = some (kI 8 (ks_row st_SHA_START)) ∧ S.2.2 295 = some (kI 64 sh_K) ∧ (∃ f, S.2.2 296 = some (kL 3 f)) ∧ (∃ f, S.2.2 297 = some (kL 6 f)) ∧ ∃ f, S.2.2 298 = some (kL 9 f)
theorem icQ.fr {S0 S S1 : ks_S} {n n' m m' N : Nat} {V : Nat → Value} (h : icQ S0 S n m V) (hn : 563 ≤ n) (e1 : S1.1 = n') (en : n ≤ n') (e2 : S1.2.1 = S.2.1 + N) (em : m + N = m') (hf : ∀ a, (a < n ∨ n' ≤ a) → a ∉ ([306, 308, 309, 310, 337, 552] : List Nat) → S1.2.2 a = S.2.2 a) : icQ S0 S1 n' m' V := by
  obtain ⟨h1, h2, h3, h4, h5, ⟨h6, h61, h62⟩, h7, h8, ⟨f9, h9⟩, ⟨fA, hA⟩, fB, hB⟩ := h
  refine ⟨e1, by rw [e2, h2]; omega, (hf _ (by omega) (by decide)).trans h3, fun a g1 g2 g3 => (hf a (by omega) (fun hm => ?_)).trans (h4 a g1 g2 g3), fun a g => (hf a (by omega) (fun hm => ?_)).trans (h5 a (by omega)), ⟨rgF_ag h6 (fun a g1 g2 => hf a (by omega) (by simp only [List.mem_cons, List.not_mem_nil, or_false]; omega)), wA_ag h61 (hf _ (by omega) (by decide)), wA_ag h62 (hf _ (by omega) (by decide))⟩, (hf _ (by omega) (by decide)).trans h7, (hf _ (by omega) (by decide)).trans h8, ⟨f9, (hf _ (by omega) (by decide)).trans h9⟩, ⟨fA, (hf _ (by omega) (by decide)).trans hA⟩, fB, (hf _ (by omega) (by decide)).trans hB⟩
  · simp only [List.mem_cons, List.not_mem_nil, or_false] at hm
    rcases hm with rfl | rfl | rfl | rfl | rfl | rfl
    · exact g3 (by decide)
    · exact g3 (by decide)
    · exact g3 (by decide)
    · exact g3 (by decide)
    · exact g3 (by decide)
    · omega
  · simp only [List.mem_cons, List.not_mem_nil, or_false] at hm
    omega
theorem icQ.up {S0 S S1 : ks_S} {n m : Nat} {V : Nat → Value} {L : List Nat} (h : icQ S0 S n m V) (hn : 563 ≤ n) (u : ks_up S S1 L) (hL : ∀ x ∈ L, x ∈ ([306, 308, 309, 310, 337, 552] : List Nat)) : icQ S0 S1 n m V :=
  h.fr hn (u.1.trans h.1) (Nat.le_refl _) (N := 0) u.2.1 rfl (fun a _ ha => u.2.2 a (fun hm => ha (hL a hm)))
theorem wA_z8 {S : ks_S} {a : Nat} (h : S.2.2 a = some (kN 8 (fun _ => 0))) : wA S a 0 := ⟨_, h, fun _ _ => by decide, by decide⟩
theorem wA_7 {S : ks_S} {a : Nat} (h : S.2.2 a = some (kN 8 (va_up (fun _ => 0) 0 7))) : wA S a 7 := ⟨_, h, fun j _ => by
  unfold va_up
  split
  · decide
  · exact (by decide : (0 : Nat) < 4294967296), by decide⟩
def icZ (S0 S : ks_S) (V : Nat → Value) : Prop := icQ S0 S 565 255799 V ∧ rgF S 547 pP muP ∧ fX S 306 7 ∧ fX S 308 gXX ∧ fX S 309 gYY ∧ fX S 310 1 ∧ wA S 337 (tg_num 545259519)
set_option maxRecDepth 100000 in
set_option maxHeartbeats 800000 in
theorem l_i13 {l : Launch} {G : ks_G} {d : Nat} {S0 S : ks_S} {V : Nat → Value} (h : icR S0 S V) {P9 : Option Value → ks_S → Prop} (hk : ∀ S1, icZ S0 S1 V → ks_X l G mX16_init (d + 3) 3153 [(0, .ref 290)] [] S1 P9) : ks_X l G mX16_init (d + 3) 2958 [(0, .ref 290)] [] S P9 := by
  obtain ⟨h1, h2, h3, h4, h5, h6, h7, h8, h9, hA, hB, hC, hD, hE⟩ := h
  have q0 : icQ S0 S 563 255783 V := ⟨h1, h2, h3, fun a g1 g2 g3 => h4 a g1 g2 (icE_n g3), h5, ⟨h9, h6, h7⟩, hA, hB, hC, hD, hE⟩
  have z306 := h4 306 (by decide) (by decide) (by decide)
  have w308 : wA S 308 0 := wA_z8 (h4 308 (by decide) (by decide) (by decide))
  have w309 : wA S 309 0 := wA_z8 (h4 309 (by decide) (by decide) (by decide))
  have w310 : wA S 310 0 := wA_z8 (h4 310 (by decide) (by decide) (by decide))
  have w337 : wA S 337 0 := wA_z8 (h4 337 (by decide) (by decide) (by decide))
  have o307 := h4 307 (by decide) (by decide) (by decide)
  change S.2.2 306 = some (kN 8 (fun _ => 0)) at z306
  change S.2.2 307 = some (.inr (17, [.ref 308, .ref 309, .ref 310])) at o307
  clear h1 h2 h4 h5 h6 h7 h9 hA hB hC hD hE
  refine ks_aload_n dX16_init_2958 rfl rfl ?_
  refine ks_getf (T := TX16) (kf := 17) kx_2385 rfl in_X16 cl_X16 (by decide) h3 rfl dX16_init_2959 rfl ?_
  refine ks_iconst (x := nI 0) dX16_init_2962 (by decide) rfl ?_
  refine ks_bipush (x := nI 7) dX16_init_2963 (by decide) rfl ?_
  refine ks_iastNN (i := 0) (v := 7) (by decide) z306 (by decide) (by decide) dX16_init_2965 rfl ?_
  refine ks_nm (fun T0 e0 => ?_)
  have u0 : ks_up S T0 [306] := by rw [e0]; exact ks_up_set _ _ (List.mem_singleton.mpr rfl)
  have w306 : wA T0 306 7 := by rw [e0]; exact wA_7 (ks_set_same _ _ _)
  clear e0
  have q1 := q0.up (by decide) u0 (by decide)
  replace o307 := u0.at o307 (by decide)
  have o1 := q1.2.2.1
  replace w308 := w308.up u0 (by decide)
  replace w309 := w309.up u0 (by decide)
  replace w310 := w310.up u0 (by decide)
  replace w337 := w337.up u0 (by decide)
  replace h8 := h8.up u0 (by decide)
  refine ks_aload_n dX16_init_2966 rfl rfl ?_
  refine ks_getf (T := TX16) (kf := 15) kx_2383 rfl in_X16 cl_X16 (by decide) o1 rfl dX16_init_2967 rfl ?_
  refine ks_aload_n dX16_init_2970 rfl rfl ?_
  refine ks_getf (T := TX16) (kf := 17) kx_2385 rfl in_X16 cl_X16 (by decide) o1 rfl dX16_init_2971 rfl ?_
  refine ks_aload_n dX16_init_2974 rfl rfl ?_
  refine ks_getf (T := TX16) (kf := 17) kx_2385 rfl in_X16 cl_X16 (by decide) o1 rfl dX16_init_2975 rfl ?_
  refine ks_callV (n := 2) (M' := mX15_enter) (c_rg_enter (d := d) (o := 547) (m := pP) (a := 306) (t := 306) h8 rN_p w306 w306 (by unfold ks_B; decide) (by unfold ks_B; decide)) h8.1.1 cl_X15 rfl kx_1917 kx_1918 kx_1919 kx_33 kx_1920 (by decide +kernel) rfl (by decide) (Nat.le_of_ble_eq_true rfl) rfl dX16_init_2978 rfl (fun z1 T1 y1 => ?_)
  obtain ⟨rfl, u1, r1, x306⟩ := y1
  have q2 := q1.up (by decide) u1 (by decide)
  replace o307 := u1.at o307 (by decide)
  have o2 := q2.2.2.1
  replace w308 := w308.up u1 (by decide)
  replace w309 := w309.up u1 (by decide)
  replace w310 := w310.up u1 (by decide)
  replace w337 := w337.up u1 (by decide)
  refine ks_bipush (x := nI 8) dX16_init_2981 (by decide) rfl ?_
  refine ks_newNx (N := 8) (x := 563) q2.1 kx_100 (by decide) (by unfold ks_B; decide) dX16_init_2983 rfl (fun T2 p2 => ?_)
  refine l_inX p2.2.2.1 (fun U2 u2 a2 => ?_)
  have f3 : ∀ a, a ≠ 563 → U2.2.2 a = T1.2.2 a := fun a ha => (u2.2.2 a (by rw [List.mem_singleton]; exact ha)).trans (p2.2.2.2 a ha)
  have q3 : icQ S0 U2 564 255791 V := q2.fr (N := 8) (by decide) (u2.1.trans p2.1) (by decide) (u2.2.1.trans p2.2.1) rfl (fun a ha _ => f3 a (by omega))
  replace w308 := wA_ag w308 (f3 _ (by decide))
  replace w309 := wA_ag w309 (f3 _ (by decide))
  replace w310 := wA_ag w310 (f3 _ (by decide))
  replace w337 := wA_ag w337 (f3 _ (by decide))
  replace x306 := wA_ag x306 (f3 _ (by decide))
  replace r1 := rgF_ag r1 (fun a g1 g2 => f3 a (by omega))
  replace o307 := (f3 307 (by decide)).trans o307
  have o3 := q3.2.2.1
  refine ks_astore dX16_init_3035 (by decide) rfl ?_
  refine ks_sub [(4, _), (0, _)] rfl ?_
  refine ks_bipush (x := nI 8) dX16_init_3037 (by decide) rfl ?_
  refine ks_newNx (N := 8) (x := 564) q3.1 kx_100 (by decide) (by unfold ks_B; decide) dX16_init_3039 rfl (fun T3 p3 => ?_)
  refine l_inY p3.2.2.1 (fun U3 u3 a3 => ?_)
  have f4 : ∀ a, a ≠ 564 → U3.2.2 a = U2.2.2 a := fun a ha => (u3.2.2 a (by rw [List.mem_singleton]; exact ha)).trans (p3.2.2.2 a ha)
  have q4 : icQ S0 U3 565 255799 V := q3.fr (N := 8) (by decide) (u3.1.trans p3.1) (by decide) (u3.2.1.trans p3.2.1) rfl (fun a ha _ => f4 a (by omega))
  replace w308 := wA_ag w308 (f4 _ (by decide))
  replace w309 := wA_ag w309 (f4 _ (by decide))
  replace w310 := wA_ag w310 (f4 _ (by decide))
  replace w337 := wA_ag w337 (f4 _ (by decide))
  replace x306 := wA_ag x306 (f4 _ (by decide))
  replace a2 := wA_ag a2 (f4 _ (by decide))
  replace r1 := rgF_ag r1 (fun a g1 g2 => f4 a (by omega))
  replace o307 := (f4 307 (by decide)).trans o307
  have o4 := q4.2.2.1
  refine ks_astore dX16_init_3091 (by decide) rfl ?_
  refine ks_sub [(5, _), (0, _), (4, _)] rfl ?_
  refine ks_aload_n dX16_init_3093 rfl rfl ?_
  refine ks_getf (T := TX16) (kf := 15) kx_2383 rfl in_X16 cl_X16 (by decide) o4 rfl dX16_init_3094 rfl ?_
  refine ks_aload dX16_init_3097 rfl rfl ?_
  refine ks_aload_n dX16_init_3099 rfl rfl ?_
  refine ks_getf (T := TX16) (kf := 18) kx_2386 rfl in_X16 cl_X16 (by decide) o4 rfl dX16_init_3100 rfl ?_
  refine ks_getN (T := TX14) (kf := 0) kx_1793 rfl in_X14 cl_X14 (by decide) o307 rfl dX16_init_3103 rfl ?_
  refine ks_callV (n := 2) (M' := mX15_enter) (c_rg_enter (d := d) (o := 547) (m := pP) (a := 563) (t := 308) r1 rN_p a2 w308 (by unfold ks_B; decide) (by unfold ks_B; decide)) r1.1.1 cl_X15 rfl kx_1917 kx_1918 kx_1919 kx_33 kx_1920 (by decide +kernel) rfl (by decide) (Nat.le_of_ble_eq_true rfl) rfl dX16_init_3106 rfl (fun z4 T4 y4 => ?_)
  obtain ⟨rfl, u4, r4, x308⟩ := y4
  have q5 := q4.up (by decide) u4 (by decide)
  replace o307 := u4.at o307 (by decide)
  have o5 := q5.2.2.1
  replace w309 := w309.up u4 (by decide)
  replace w310 := w310.up u4 (by decide)
  replace w337 := w337.up u4 (by decide)
  replace x306 := x306.up u4 (by decide)
  replace a3 := a3.up u4 (by decide)
  refine ks_aload_n dX16_init_3109 rfl rfl ?_
  refine ks_getf (T := TX16) (kf := 15) kx_2383 rfl in_X16 cl_X16 (by decide) o5 rfl dX16_init_3110 rfl ?_
  refine ks_aload dX16_init_3113 rfl rfl ?_
  refine ks_aload_n dX16_init_3115 rfl rfl ?_
  refine ks_getf (T := TX16) (kf := 18) kx_2386 rfl in_X16 cl_X16 (by decide) o5 rfl dX16_init_3116 rfl ?_
  refine ks_getN (T := TX14) (kf := 1) kx_1795 rfl in_X14 cl_X14 (by decide) o307 rfl dX16_init_3119 rfl ?_
  refine ks_callV (n := 2) (M' := mX15_enter) (c_rg_enter (d := d) (o := 547) (m := pP) (a := 564) (t := 309) r4 rN_p a3 w309 (by unfold ks_B; decide) (by unfold ks_B; decide)) r4.1.1 cl_X15 rfl kx_1917 kx_1918 kx_1919 kx_33 kx_1920 (by decide +kernel) rfl (by decide) (Nat.le_of_ble_eq_true rfl) rfl dX16_init_3122 rfl (fun z5 T5 y5 => ?_)
  obtain ⟨rfl, u5, r5, x309⟩ := y5
  have q6 := q5.up (by decide) u5 (by decide)
  replace o307 := u5.at o307 (by decide)
  have o6 := q6.2.2.1
  replace w310 := w310.up u5 (by decide)
  replace w337 := w337.up u5 (by decide)
  replace x306 := x306.up u5 (by decide)
  replace x308 := x308.up u5 (by decide)
  refine ks_aload_n dX16_init_3125 rfl rfl ?_
  refine ks_getf (T := TX16) (kf := 15) kx_2383 rfl in_X16 cl_X16 (by decide) o6 rfl dX16_init_3126 rfl ?_
  refine ks_getN (T := TX15) (kf := 2) kx_1882 rfl in_X15 cl_X15 (by decide) r5.1.1 rfl dX16_init_3129 rfl ?_
  refine ks_aload_n dX16_init_3132 rfl rfl ?_
  refine ks_getf (T := TX16) (kf := 18) kx_2386 rfl in_X16 cl_X16 (by decide) o6 rfl dX16_init_3133 rfl ?_
  refine ks_getN (T := TX14) (kf := 2) kx_1797 rfl in_X14 cl_X14 (by decide) o307 rfl dX16_init_3136 rfl ?_
  refine ks_callS (n := 2) (M' := mX15_copy) (c_rg_copy (d := d + 2) (a := 549) (t := 310) r5.2.1 w310 (by unfold ks_B; decide)) kx_1945 kx_1876 kx_33 kx_1877 (by decide +kernel) rfl (by decide) (Nat.le_of_ble_eq_true rfl) rfl dX16_init_3139 rfl (fun z6 T6 y6 => ?_)
  obtain ⟨rfl, u6, x310⟩ := y6
  replace r5 := r5.up u6 (by decide)
  have q7 := q6.up (by decide) u6 (by decide)
  replace o307 := u6.at o307 (by decide)
  have o7 := q7.2.2.1
  replace w337 := w337.up u6 (by decide)
  replace x306 := x306.up u6 (by decide)
  replace x308 := x308.up u6 (by decide)
  replace x309 := x309.up u6 (by decide)
  refine ks_ldcw dX16_init_3142 kx_1946 rfl ?_
  refine ks_ti (y := nI 545259519) rfl ?_
  refine ks_aload_n dX16_init_3145 rfl rfl ?_
  refine ks_getf (T := TX16) (kf := 42) kx_2410 rfl in_X16 cl_X16 (by decide) o7 rfl dX16_init_3146 rfl ?_
  refine ks_callS (n := 2) (M' := mX16_target) (c_md_target (d := d + 2) (b := 545259519) (t := 337) (by decide) w337 (by unfold ks_B; decide)) kx_1947 kx_1948 kx_30 kx_1949 (by decide +kernel) rfl (by decide) (Nat.le_of_ble_eq_true rfl) rfl dX16_init_3149 rfl (fun z7 T7 y7 => ?_)
  obtain ⟨rfl, u7, x337⟩ := y7
  replace r5 := r5.up u7 (by decide)
  have q8 := q7.up (by decide) u7 (by decide)
  replace o307 := u7.at o307 (by decide)
  have o8 := q8.2.2.1
  replace x306 := x306.up u7 (by decide)
  replace x308 := x308.up u7 (by decide)
  replace x309 := x309.up u7 (by decide)
  replace x310 := x310.up u7 (by decide)
  refine ks_pop dX16_init_3152 rfl rfl ?_
  refine ks_sub [(0, _)] rfl (hk T7 ⟨q8, r5, ⟨x306, by decide⟩, ⟨x308, by decide⟩, ⟨x309, by decide⟩, ⟨?_, by decide⟩, x337⟩)
  rw [Nat.one_mul]
  exact x310
