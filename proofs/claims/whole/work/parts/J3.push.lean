/-! THE REFERENCE: the stack, push -/
theorem kB_lq {n m : Nat} {g g' : Nat → Nat} (h : kB n g = kB m g') : n = m := congrArg (fun e : ks_E => match e with | .inl (_, n, _) => n | .inr _ => 0) h
/-- the elements of a table, the top one first -/
def elR (S : ks_S) (tb : Nat → Option Nat) (sz : Nat → Nat) (xs : List (List Nat)) : Prop := ∀ i, i < xs.length → ∃ r g, tb i = some r ∧ S.2.2 r = some (kB 520 g) ∧ kO g ∧ sz i ≤ 520 ∧ xs.getD (xs.length - 1 - i) [] = bytL g 0 (sz i)
/-- elements stay where their rows do -/
theorem elR.keep {S S1 : ks_S} {tb tb1 : Nat → Option Nat} {sz sz1 : Nat → Nat} {xs : List (List Nat)} (h : elR S tb sz xs) (h1 : ∀ i, i < xs.length → tb1 i = tb i ∧ sz1 i = sz i) (h2 : ∀ i r g, i < xs.length → tb i = some r → S.2.2 r = some (kB 520 g) → S1.2.2 r = some (kB 520 g)) : elR S1 tb1 sz1 xs := fun i hi => by
  obtain ⟨r, g, a1, a2, a3, a4, a5⟩ := h i hi
  refine ⟨r, g, (h1 i hi).1.trans a1, h2 i r g hi a1 a2, a3, ?_, ?_⟩
  · rw [(h1 i hi).2]; exact a4
  · rw [(h1 i hi).2]; exact a5
theorem elR.cons {S : ks_S} {tb : Nat → Option Nat} {sz : Nat → Nat} {xs : List (List Nat)} {x : List Nat} {r : Nat} {g : Nat → Nat} (h : elR S tb sz xs) (h1 : tb xs.length = some r) (h2 : S.2.2 r = some (kB 520 g)) (h3 : kO g) (h4 : sz xs.length ≤ 520) (h5 : x = bytL g 0 (sz xs.length)) : elR S tb sz (x :: xs) := fun i hi => by
  have hl : (x :: xs).length = xs.length + 1 := rfl
  by_cases e : i = xs.length
  · subst e
    refine ⟨r, g, h1, h2, h3, h4, ?_⟩
    rw [hl, show xs.length + 1 - 1 - xs.length = 0 by omega]
    exact h5
  · obtain ⟨r2, g2, a1, a2, a3, a4, a5⟩ := h i (by omega)
    refine ⟨r2, g2, a1, a2, a3, a4, ?_⟩
    rw [hl, show xs.length + 1 - 1 - i = (xs.length - 1 - i) + 1 by omega]
    exact a5
theorem elR.drop {S : ks_S} {tb : Nat → Option Nat} {sz : Nat → Nat} {xs : List (List Nat)} (k : Nat) (h : elR S tb sz xs) : elR S tb sz (xs.drop k) := fun i hi => by
  rw [List.length_drop] at hi
  obtain ⟨r, g, a1, a2, a3, a4, a5⟩ := h i (by omega)
  refine ⟨r, g, a1, a2, a3, a4, ?_⟩
  rw [List.length_drop, ← a5, List.getD_eq_getElem?_getD, List.getD_eq_getElem?_getD, List.getElem?_drop]
  congr 2
  omega
/-- the saved elements, with their table -/
abbrev Vs : Type := (Nat → Option Nat) × List (List Nat)
/-- the machine's elements: stack, other stack, saved ones -/
def rsK (S : ks_S) (V : Nat → Value) (T : Nat → Nat → Option Nat) (sz oz vz : Nat → Nat) (xs ys : List (List Nat)) (vs : Vs) : Prop := tbS S T ∧ (S.2.2 362 = some (kN 1002 sz) ∧ S.2.2 364 = some (kN 1002 oz) ∧ S.2.2 366 = some (kN 1002 vz)) ∧ (V 67 = .int (nI xs.length) ∧ V 70 = .int (nI ys.length) ∧ V 73 = .int (nI vs.2.length)) ∧ (xs.length ≤ 1001 ∧ ys.length ≤ 1001 ∧ vs.2.length ≤ 1001) ∧ elR S (T 0) sz xs ∧ elR S (T 1) oz ys ∧ elR S (T 2) vz vs.2 ∧ T 2 = vs.1
/-- a write to one row of a table -/
theorem tbS.wr {S S1 : ks_S} {T : Nat → Nat → Option Nat} {r : Nat} {g0 g : Nat → Nat} (h : tbS S T) (hu : ks_up S S1 [r]) (h0 : S.2.2 r = some (kB 520 g0)) (h1 : S1.2.2 r = some (kB 520 g)) (kg : kO g) : tbS S1 T := by
  obtain ⟨a1, a2, a3, a4, a5⟩ := h
  refine ⟨fun a ha => hu.at (a1 a ha) (by rw [List.mem_singleton]; exact ks_ne (a1 a ha) h0 (fun h => by cases h)), a2, fun a i x hx => ?_, a4.up hu (fun x hx => ?_), by rw [hu.1]; exact a5⟩
  · obtain ⟨b1, g9, b2, b3⟩ := a3 a i x hx
    by_cases e : x = r
    · subst e; exact ⟨b1, g, kg, h1⟩
    · exact ⟨b1, g9, b2, hu.at b3 (by rw [List.mem_singleton]; exact e)⟩
  · rw [List.mem_singleton] at hx
    subst hx
    exact a4.lt h0
/-- a write to the object alone -/
theorem rsK.obj {S : ks_S} {V V1 V' : Nat → Value} {T : Nat → Nat → Option Nat} {sz oz vz : Nat → Nat} {xs ys : List (List Nat)} {vs : Vs} (h : rsK S V T sz oz vz xs ys vs) (hO : S.2.2 290 = some (rfE V1)) (hv : V' 67 = V 67 ∧ V' 70 = V 70 ∧ V' 73 = V 73) : rsK (ks_set S 290 (rfE V')) V' T sz oz vz xs ys vs := by
  obtain ⟨h1, ⟨h2, h3, h4⟩, ⟨v1, v2, v3⟩, h5, h6, h7, h8, h9⟩ := h
  have hu : ks_up S (ks_set S 290 (rfE V')) [290] := ks_up_set _ _ (List.mem_singleton.mpr rfl)
  have ke : ∀ (i r : Nat) (g : Nat → Nat), S.2.2 r = some (kB 520 g) → (ks_set S 290 (rfE V')).2.2 r = some (kB 520 g) := fun i r g hr => hu.at hr (by rw [List.mem_singleton]; exact ks_ne hr hO (fun h => by cases h))
  exact ⟨h1.up hu (by decide) (fun x hx => by rw [List.mem_singleton] at hx; subst hx; exact ⟨_, hO, fun g h => by cases h⟩), ⟨hu.at h2 (by decide), hu.at h3 (by decide), hu.at h4 (by decide)⟩, ⟨hv.1.trans v1, hv.2.1.trans v2, hv.2.2.trans v3⟩, h5, h6.keep (fun _ _ => ⟨rfl, rfl⟩) (fun i r g _ _ hr => ke i r g hr), h7.keep (fun _ _ => ⟨rfl, rfl⟩) (fun i r g _ _ hr => ke i r g hr), h8.keep (fun _ _ => ⟨rfl, rfl⟩) (fun i r g _ _ hr => ke i r g hr), h9⟩
set_option maxRecDepth 100000 in
set_option maxHeartbeats 800000 in
theorem l_psh {l : Launch} {G : ks_G} {d : Nat} {S : ks_S} {V : Nat → Value} {P : Option Value → ks_S → Prop} {gd gs : Nat → Nat} {y N at_ n r : Nat} (hO : S.2.2 290 = some (rfE V)) (hs9 : S.2.2 y = some (kB N gs)) (kgs : kO gs) (hd9 : S.2.2 r = some (kB 520 gd)) (kgd : kO gd) (hat : at_ + n ≤ N) (hN : N < 2 ^ 28) (hn5 : n ≤ 520) (hr9 : 290 ≠ r) (hry : y ≠ r) (hk : ∀ S1 : ks_S, ks_up S S1 [r] → S1.2.2 r = some (kB 520 (ks_pt (fun j => gs (at_ + j)) gd 0 n)) → kO (ks_pt (fun j => gs (at_ + j)) gd 0 n) → ks_X l G mX16_push d 62 [(0, .ref 290), (1, .ref y), (2, .int (nI at_)), (3, .int (nI n)), (4, .ref r)] [] S1 P) : ∀ (u i : Nat) (S1 : ks_S), i + u = n → ks_up S S1 [r] → S1.2.2 r = some (kB 520 (ks_pt (fun j => gs (at_ + j)) gd 0 i)) → ks_X l G mX16_push d 39 [(0, .ref 290), (1, .ref y), (2, .int (nI at_)), (3, .int (nI n)), (4, .ref r), (5, .int (nI i))] [] S1 P := by
  have kD : kO (fun j => gs (at_ + j)) := fun j => kgs _
  intro u
  induction u with
  | zero =>
    intro i S1 hi hu e1
    have o1 := hu.at hO (by simp only [List.mem_cons, List.not_mem_nil, or_false]; exact (by omega))
    have s1 := hu.at hs9 (by simp only [List.mem_cons, List.not_mem_nil, or_false]; exact (by omega))
    obtain rfl : i = n := hi
    refine ks_iload dX16_push_39 rfl rfl ?_
    refine ks_iload_n dX16_push_41 rfl rfl ?_
    refine ks_icmp_geN (tgt := 62) (by omega) (by omega) dX16_push_42 (by decide) rfl (fun h1 => ?_) (fun h1 => absurd h1 (by omega))
    refine ks_sub [(0, _), (1, _), (2, _), (3, _), (4, _)] rfl ?_
    exact hk S1 hu e1 (kO_pt kD kgd _ _)
  | succ u ih =>
    intro i S1 hi hu e1
    have o1 := hu.at hO (by simp only [List.mem_cons, List.not_mem_nil, or_false]; exact (by omega))
    have s1 := hu.at hs9 (by simp only [List.mem_cons, List.not_mem_nil, or_false]; exact (by omega))
    refine ks_iload dX16_push_39 rfl rfl ?_
    refine ks_iload_n dX16_push_41 rfl rfl ?_
    refine ks_icmp_geN (tgt := 62) (by omega) (by omega) dX16_push_42 (by decide) rfl (fun h1 => absurd h1 (by omega)) (fun h1 => ?_)
    refine ks_aload dX16_push_45 rfl rfl ?_
    refine ks_iload dX16_push_47 rfl rfl ?_
    refine ks_aload_n dX16_push_49 rfl rfl ?_
    refine ks_iload_n dX16_push_50 rfl rfl ?_
    refine ks_iload dX16_push_51 rfl rfl ?_
    refine ks_addN dX16_push_53 rfl ?_
    refine ks_baldB (i := at_ + i) s1 rfl (by omega) (by omega) dX16_push_54 rfl ?_
    refine ks_bastB (i := i) (c := gs (at_ + i)) e1 rfl (by omega) (by decide) (ks_by_b (kgs _)) dX16_push_55 rfl ?_
    refine ks_incN (c := 1) (e := i + 1) dX16_push_56 rfl (by decide) rfl (by decide) rfl ?_
    refine ks_sub [(5, _), (0, _), (1, _), (2, _), (3, _), (4, _)] rfl ?_
    refine ks_goto (tgt := 39) dX16_push_59 (by decide) ?_
    refine ks_sub [(0, _), (1, _), (2, _), (3, _), (4, _), (5, _)] rfl (ih (i + 1) _ (by omega) (hu.trans (ks_up_set _ _ (List.mem_singleton.mpr rfl))) ?_)
    rw [ks_set_same, ← ks_pt_s]
    rw [Nat.zero_add]
set_option maxRecDepth 100000 in
set_option maxHeartbeats 1600000 in
theorem c_rs_push {l : Launch} {G : ks_G} {d : Nat} {S : ks_S} {V : Nat → Value} {T : Nat → Nat → Option Nat} {sz oz vz : Nat → Nat} {xs ys : List (List Nat)} {vs : Vs} (hO : S.2.2 290 = some (rfE V)) (hK : rsK S V T sz oz vz xs ys vs) {y N at_ n : Nat} {g : Nat → Nat} (hy : S.2.2 y = some (kB N g)) (kg : kO g) (hat : at_ + n ≤ N) (hN : N < 2 ^ 28) (hyd : T 0 xs.length ≠ some y) : ks_P l G yX16_push mX16_push (d + 1) [.ref 290, .ref y, .int (nI at_), .int (nI n)] S (fun z S' => z = none ∧ ∃ T' sz' V', sfK [290, 361, 362] S S' (frT T) (frT T') ∧ S'.2.2 290 = some (rfE V') ∧ (∀ k, k ≠ 67 → k ≠ 74 → V' k = V k) ∧ ((n ≤ 520 ∧ xs.length ≤ 1000 ∧ V' 74 = V 74 ∧ (∀ b j, b ≠ 0 ∨ j ≠ xs.length → T' b j = T b j) ∧ rsK S' V' T' sz' oz vz (bytL g at_ n :: xs) ys vs) ∨ (¬ (n ≤ 520 ∧ xs.length ≤ 1000) ∧ V' 74 = .int (ks_bo true) ∧ T' = T ∧ rsK S' V' T sz oz vz xs ys vs))) := by
  obtain ⟨hT, ⟨h362, h364, h366⟩, ⟨v67, v70, v73⟩, ⟨bx, by9, bv⟩, hx, hys, hvs, hU⟩ := id hK
  have bad : ¬ (n ≤ 520 ∧ xs.length ≤ 1000) → (fun z S' => z = none ∧ ∃ T' sz' V', sfK [290, 361, 362] S S' (frT T) (frT T') ∧ S'.2.2 290 = some (rfE V') ∧ (∀ k, k ≠ 67 → k ≠ 74 → V' k = V k) ∧ ((n ≤ 520 ∧ xs.length ≤ 1000 ∧ V' 74 = V 74 ∧ (∀ b j, b ≠ 0 ∨ j ≠ xs.length → T' b j = T b j) ∧ rsK S' V' T' sz' oz vz (bytL g at_ n :: xs) ys vs) ∨ (¬ (n ≤ 520 ∧ xs.length ≤ 1000) ∧ V' 74 = .int (ks_bo true) ∧ T' = T ∧ rsK S' V' T sz oz vz xs ys vs))) (none : Option Value) (ks_set S 290 (rfE (va_up V 74 (.int (ks_bo true))))) := fun hb => ⟨rfl, T, sz, va_up V 74 (.int (ks_bo true)), sfK.of (ks_up_set _ _ (by decide)), ks_set_same _ _ _, fun k _ h2 => va_up_ne _ _ h2, Or.inr ⟨hb, va_up_self _ _ _, rfl, hK.obj hO ⟨va_up_ne _ _ (by decide), va_up_ne _ _ (by decide), va_up_ne _ _ (by decide)⟩⟩⟩
  refine ks_of (by decide) rfl rfl (Nat.le_of_ble_eq_true rfl) ?_
  show ks_X l G mX16_push (d + 1) 0 [(0, .ref 290), (1, .ref y), (2, .int (nI at_)), (3, .int (nI n))] [] S _
  refine ks_iload_n dX16_push_0 rfl rfl ?_
  refine ks_sipush (x := nI 520) dX16_push_1 (by decide) rfl ?_
  refine ks_icmp_gtN (tgt := 17) (by omega) (by decide) dX16_push_4 (by decide) rfl (fun h1 => ?_) (fun h1 => ?_)
  · refine ks_aload_n dX16_push_17 rfl rfl ?_
    refine ks_iconst (x := nI 1) dX16_push_18 (by decide) rfl ?_
    refine ks_putf (T := TX16) (kf := 74) kx_2442 rfl in_X16 tyX16_ok nmX16 cl_X16 (by decide) hO (Nat.le_of_ble_eq_true rfl) rfl rfl rfl rfl dX16_push_19 rfl ?_
    refine md_put mdp_74 ?_
    refine ks_ret rfl dX16_push_22 ?_
    exact bad (by omega)
  · refine ks_aload_n dX16_push_7 rfl rfl ?_
    refine ks_getf (T := TX16) (kf := 67) kx_2435 rfl in_X16 cl_X16 (by decide) hO rfl dX16_push_8 rfl ?_
    refine ks_tv v67 ?_
    refine ks_sipush (x := nI 1000) dX16_push_11 (by decide) rfl ?_
    refine ks_icmp_leN (tgt := 23) (by omega) (by decide) dX16_push_14 (by decide) rfl (fun h2 => ?_) (fun h2 => ?_)
    · refine ks_aload_n dX16_push_23 rfl rfl ?_
      refine ks_getf (T := TX16) (kf := 65) kx_2433 rfl in_X16 cl_X16 (by decide) hO rfl dX16_push_24 rfl ?_
      refine ks_aload_n dX16_push_27 rfl rfl ?_
      refine ks_getf (T := TX16) (kf := 67) kx_2435 rfl in_X16 cl_X16 (by decide) hO rfl dX16_push_28 rfl ?_
      refine ks_tv v67 ?_
      refine ks_callS (n := 2) (M' := mX16_row) (c_md_row (d := d) (a := 0) (i := xs.length) hT (by decide) (by omega)) kx_2181 kx_2182 kx_30 kx_2183 (by decide +kernel) rfl (by decide) (Nat.le_of_ble_eq_true rfl) rfl dX16_push_31 rfl (fun z1 S1 y1 => ?_)
      obtain ⟨T1, r, rfl, hT1, hr, hTT, hsame, hnew, sf, k520⟩ := y1
      obtain ⟨-, g0, kg0, er⟩ := hT1.2.2.1 _ _ _ hr
      have yr : y ≠ r := fun e => by
        subst e
        cases ht : T 0 xs.length with
        | none =>
          have h9 := hT.2.2.2.1.lt hy
          have h8 := hT.2.2.2.2
          rw [hnew ht] at h9
          rcases h9 with h9 | h9
          · exact absurd h9 (Nat.lt_irrefl _)
          · exact absurd (Nat.lt_of_lt_of_le (Nat.lt_of_le_of_lt (Nat.le_trans (Nat.le_add_right _ _) (Nat.le_add_right _ _)) h8) h9) (Nat.lt_irrefl _)
        | some x => obtain ⟨rfl, -⟩ := hsame x ht; exact hyd hr
      have y1 : S1.2.2 y = some (kB N g) := by
        by_cases hN9 : N = 520
        · subst hN9; exact k520 y g hy
        · exact sf.2 y _ hy (by rw [List.mem_singleton]; exact ks_ne hy (hT.1 0 (by decide)) (fun h => by cases h)) (fun g' h => hN9 (kB_lq h))
      have o1 : S1.2.2 290 = some (rfE V) := sf.2 290 _ hO (by decide) (fun g h => by cases h)
      have z1 : S1.2.2 362 = some (kN 1002 sz) := sf.2 362 _ h362 (by decide) (fun g h => by cases h)
      have r290 : 290 ≠ r := ks_ne o1 er (fun h => by cases h)
      have r362 : 362 ≠ r := ks_ne z1 er (fun h => by cases h)
      refine ks_astore dX16_push_34 (by decide) rfl ?_
      refine ks_sub [(4, _), (0, _), (1, _), (2, _), (3, _)] rfl ?_
      refine ks_iconst (x := nI 0) dX16_push_36 (by decide) rfl ?_
      refine ks_istore dX16_push_37 (by decide) rfl ?_
      refine ks_sub [(5, _), (0, _), (1, _), (2, _), (3, _), (4, _)] rfl ?_
      refine ks_sub [(0, _), (1, _), (2, _), (3, _), (4, _), (5, _)] rfl (l_psh (d := d + 1) o1 y1 kg er kg0 hat hN (by omega) r290 yr (fun S2 u2 e2 k2 => ?_) n 0 S1 (by omega) (ks_up.rf _ _) (by rw [ks_pt_0]; exact er))
      have o2 := u2.at o1 (by rw [List.mem_singleton]; exact r290)
      have z2 := u2.at z1 (by rw [List.mem_singleton]; exact r362)
      refine ks_aload_n dX16_push_62 rfl rfl ?_
      refine ks_getf (T := TX16) (kf := 66) kx_2434 rfl in_X16 cl_X16 (by decide) o2 rfl dX16_push_63 rfl ?_
      refine ks_aload_n dX16_push_66 rfl rfl ?_
      refine ks_getf (T := TX16) (kf := 67) kx_2435 rfl in_X16 cl_X16 (by decide) o2 rfl dX16_push_67 rfl ?_
      refine ks_tv v67 ?_
      refine ks_iload_n dX16_push_70 rfl rfl ?_
      refine ks_iastNN (i := xs.length) (v := n) (by decide) z2 (by omega) (by decide) dX16_push_71 rfl ?_
      refine ks_aload_n dX16_push_72 rfl rfl ?_
      refine ks_dup dX16_push_73 rfl rfl ?_
      refine ks_getf (T := TX16) (kf := 67) kx_2435 rfl in_X16 cl_X16 (by decide) ((ks_set_ne _ _ (by decide)).trans o2) rfl dX16_push_74 rfl ?_
      refine ks_tv v67 ?_
      refine ks_iconst (x := nI 1) dX16_push_77 (by decide) rfl ?_
      refine ks_addN dX16_push_78 rfl ?_
      refine ks_putf (T := TX16) (kf := 67) kx_2435 rfl in_X16 tyX16_ok nmX16 cl_X16 (by decide) ((ks_set_ne _ _ (by decide)).trans o2) (Nat.le_of_ble_eq_true rfl) rfl rfl rfl rfl dX16_push_79 rfl ?_
      refine md_put mdp_67 ?_
      refine ks_ret rfl dX16_push_82 ?_
      have hT2 := hT1.wr u2 er e2 k2
      obtain ⟨S3, eS3⟩ : ∃ S3, S3 = ks_set S2 362 (kN 1002 (va_up sz xs.length n)) := ⟨_, rfl⟩
      rw [← eS3]
      have u3 : ks_up S2 S3 [362] := by rw [eS3]; exact ks_up_set _ _ (List.mem_singleton.mpr rfl)
      have z3 : S3.2.2 362 = some (kN 1002 (va_up sz xs.length n)) := by rw [eS3]; exact ks_set_same _ _ _
      have o3 := u3.at o2 (by decide)
      have hT3 : tbS S3 T1 := hT2.up u3 (by decide) (fun x hx => by rw [List.mem_singleton] at hx; subst hx; exact ⟨_, z2, fun g h => by cases h⟩)
      have keep : ∀ x g, S.2.2 x = some (kB 520 g) → x ≠ r → S3.2.2 x = some (kB 520 g) := fun x g hx hne => u3.at (u2.at (k520 x g hx) (by rw [List.mem_singleton]; exact hne)) (by rw [List.mem_singleton]; exact ks_ne (u2.at (k520 x g hx) (by rw [List.mem_singleton]; exact hne)) z2 (fun h => by cases h))
      have inj : ∀ a i x, (a ≠ 0 ∨ i ≠ xs.length) → T a i = some x → x ≠ r := fun a i x hne hx e => by
        subst e
        rw [← hTT a i hne] at hx
        have := hT1.2.1 _ _ _ _ _ hx hr
        omega
      have e3 : S3.2.2 r = some (kB 520 (ks_pt (fun j => g (at_ + j)) g0 0 n)) := u3.at e2 (by rw [List.mem_singleton]; exact fun h => r362 h.symm)
      have bl : bytL g at_ n = bytL (ks_pt (fun j => g (at_ + j)) g0 0 n) 0 n := bytL_congr (fun j hj => (ks_pt_in (fun j => g (at_ + j)) g0 0 n hj).symm)
      have fsf : sfK [290, 361, 362] S S3 (frT T) (frT T1) := ⟨⟨by rw [u3.1, u2.1]; exact sf.1.1, by rw [u3.2.1, u2.2.1]; exact sf.1.2.1, by rw [u3.1, u2.1]; exact sf.1.2.2⟩, fun a e ha hl he => by
        simp only [List.mem_cons, List.not_mem_nil, or_false, not_or] at hl
        have h1 := sf.2 a e ha (by rw [List.mem_singleton]; exact hl.2.1) he
        exact u3.at (u2.at h1 (by rw [List.mem_singleton]; intro h; subst h; rw [er] at h1; exact he _ (Option.some.inj h1).symm)) (by rw [List.mem_singleton]; exact hl.2.2)⟩
      have K3 : rsK S3 (va_up V 67 (.int (nI (xs.length + 1)))) T1 (va_up sz xs.length n) oz vz (bytL g at_ n :: xs) ys vs := by
        refine ⟨hT3, ⟨z3, fsf.2 364 _ h364 (by decide) (fun g h => by cases h), fsf.2 366 _ h366 (by decide) (fun g h => by cases h)⟩, ⟨va_up_self _ _ _, (va_up_ne _ _ (by decide)).trans v70, (va_up_ne _ _ (by decide)).trans v73⟩, ⟨by show xs.length + 1 ≤ 1001; omega, by9, bv⟩, ?_, hys.keep (fun i hi => ⟨hTT 1 i (Or.inl (by decide)), rfl⟩) (fun i x g9 hi h9 hx => keep x g9 hx (inj 1 i x (Or.inl (by decide)) h9)), hvs.keep (fun i hi => ⟨hTT 2 i (Or.inl (by decide)), rfl⟩) (fun i x g9 hi h9 hx => keep x g9 hx (inj 2 i x (Or.inl (by decide)) h9)), (funext fun j => hTT 2 j (Or.inl (by decide))).trans hU⟩
        refine elR.cons (hx.keep (fun i hi => ⟨hTT 0 i (Or.inr (by omega)), va_up_ne _ _ (by omega)⟩) (fun i x g9 hi h9 hx => keep x g9 hx (inj 0 i x (Or.inr (by omega)) h9))) hr e3 k2 (by rw [va_up_self]; omega) (by rw [va_up_self]; exact bl)
      refine ⟨rfl, T1, va_up sz xs.length n, va_up V 67 (.int (nI (xs.length + 1))), fsf.trans (sfK.of (ks_up_set _ _ (by decide))), ks_set_same _ _ _, fun k h1 _ => va_up_ne _ _ h1, Or.inl ⟨by omega, h2, va_up_ne _ _ (by decide), hTT, K3.obj o3 ⟨rfl, rfl, rfl⟩⟩⟩
    · refine ks_aload_n dX16_push_17 rfl rfl ?_
      refine ks_iconst (x := nI 1) dX16_push_18 (by decide) rfl ?_
      refine ks_putf (T := TX16) (kf := 74) kx_2442 rfl in_X16 tyX16_ok nmX16 cl_X16 (by decide) hO (Nat.le_of_ble_eq_true rfl) rfl rfl rfl rfl dX16_push_19 rfl ?_
      refine md_put mdp_74 ?_
      refine ks_ret rfl dX16_push_22 ?_
      exact bad (by omega)
