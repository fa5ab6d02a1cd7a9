/-! THE REFERENCE: keepStack -/
set_option maxRecDepth 100000 in
set_option maxHeartbeats 800000 in
theorem l_ksIn {l : Launch} {G : ks_G} {d : Nat} {S : ks_S} {V : Nat → Value} {P : Option Value → ks_S → Prop} {gd gs : Nat → Nat} {k r rs : Nat} {tb : Nat → Option Nat} {sz : Nat → Nat} (hO : S.2.2 290 = some (rfE V)) (hs9 : S.2.2 rs = some (kB 520 gs)) (kgs : kO gs) (hd9 : S.2.2 r = some (kB 520 gd)) (kgd : kO gd) (h361 : S.2.2 361 = some (kA 4 1002 tb)) (htb : tb k = some rs) (h362 : S.2.2 362 = some (kN 1002 sz)) (hk9 : k < 1002) (hn : sz k ≤ 520) (hr9 : 562 < r) (hne : rs ≠ r) (hk : ∀ S1 : ks_S, ks_up S S1 [r] → S1.2.2 r = some (kB 520 (ks_pt (fun j => gs (j)) gd 0 (sz k))) → kO (ks_pt (fun j => gs (j)) gd 0 (sz k)) → ks_X l G mX16_keepStack d 56 [(0, .ref 290), (1, .int (nI k)), (2, .ref r)] [] S1 P) : ∀ (u i : Nat) (S1 : ks_S), i + u = sz k → ks_up S S1 [r] → S1.2.2 r = some (kB 520 (ks_pt (fun j => gs (j)) gd 0 i)) → ks_X l G mX16_keepStack d 29 [(0, .ref 290), (1, .int (nI k)), (2, .ref r), (3, .int (nI i))] [] S1 P := by
  have kD : kO (fun j => gs (j)) := fun j => kgs _
  intro u
  induction u with
  | zero =>
    intro i S1 hi hu e1
    have o1 := hu.at hO (by simp only [List.mem_cons, List.not_mem_nil, or_false]; exact (by omega))
    have s1 := hu.at hs9 (by simp only [List.mem_cons, List.not_mem_nil, or_false]; exact (by omega))
    have t1 := hu.at h361 (by rw [List.mem_singleton]; omega)
    have t2 := hu.at h362 (by rw [List.mem_singleton]; omega)
    obtain rfl : i = sz k := hi
    refine ks_iload_n dX16_keepStack_29 rfl rfl ?_
    refine ks_aload_n dX16_keepStack_30 rfl rfl ?_
    refine ks_getf (T := TX16) (kf := 66) kx_2434 rfl in_X16 cl_X16 (by decide) o1 rfl dX16_keepStack_31 rfl ?_
    refine ks_iload_n dX16_keepStack_34 rfl rfl ?_
    refine ks_ialdN (i := k) t2 rfl (by omega) (by decide) dX16_keepStack_35 rfl ?_
    refine ks_icmp_geN (tgt := 56) (by omega) (by omega) dX16_keepStack_36 (by decide) rfl (fun h1 => ?_) (fun h1 => absurd h1 (by omega))
    refine ks_sub [(0, _), (1, _), (2, _)] rfl ?_
    exact hk S1 hu e1 (kO_pt kD kgd _ _)
  | succ u ih =>
    intro i S1 hi hu e1
    have o1 := hu.at hO (by simp only [List.mem_cons, List.not_mem_nil, or_false]; exact (by omega))
    have s1 := hu.at hs9 (by simp only [List.mem_cons, List.not_mem_nil, or_false]; exact (by omega))
    have t1 := hu.at h361 (by rw [List.mem_singleton]; omega)
    have t2 := hu.at h362 (by rw [List.mem_singleton]; omega)
    refine ks_iload_n dX16_keepStack_29 rfl rfl ?_
    refine ks_aload_n dX16_keepStack_30 rfl rfl ?_
    refine ks_getf (T := TX16) (kf := 66) kx_2434 rfl in_X16 cl_X16 (by decide) o1 rfl dX16_keepStack_31 rfl ?_
    refine ks_iload_n dX16_keepStack_34 rfl rfl ?_
    refine ks_ialdN (i := k) t2 rfl (by omega) (by decide) dX16_keepStack_35 rfl ?_
    refine ks_icmp_geN (tgt := 56) (by omega) (by omega) dX16_keepStack_36 (by decide) rfl (fun h1 => absurd h1 (by omega)) (fun h1 => ?_)
    refine ks_aload_n dX16_keepStack_39 rfl rfl ?_
    refine ks_iload_n dX16_keepStack_40 rfl rfl ?_
    refine ks_aload_n dX16_keepStack_41 rfl rfl ?_
    refine ks_getf (T := TX16) (kf := 65) kx_2433 rfl in_X16 cl_X16 (by decide) o1 rfl dX16_keepStack_42 rfl ?_
    refine ks_iload_n dX16_keepStack_45 rfl rfl ?_
    refine ks_aaldN (i := k) (b := rs) (by decide) t1 rfl (by omega) (by decide) htb dX16_keepStack_46 rfl ?_
    refine ks_iload_n dX16_keepStack_47 rfl rfl ?_
    refine ks_baldB (i := i) s1 rfl (by omega) (by decide) dX16_keepStack_48 rfl ?_
    refine ks_bastB (i := i) (c := gs i) e1 rfl (by omega) (by decide) (ks_by_b (kgs _)) dX16_keepStack_49 rfl ?_
    refine ks_incN (c := 1) (e := i + 1) dX16_keepStack_50 rfl (by decide) rfl (by decide) rfl ?_
    refine ks_sub [(3, _), (0, _), (1, _), (2, _)] rfl ?_
    refine ks_goto (tgt := 29) dX16_keepStack_53 (by decide) ?_
    refine ks_sub [(0, _), (1, _), (2, _), (3, _)] rfl (ih (i + 1) _ (by omega) (hu.trans (ks_up_set _ _ (List.mem_singleton.mpr rfl))) ?_)
    rw [ks_set_same, ← ks_pt_s]
    rw [Nat.zero_add]
theorem ls_drop {xs : List (List Nat)} {k : Nat} (h : k < xs.length) : xs.drop (xs.length - (k + 1)) = xs.getD (xs.length - 1 - k) [] :: xs.drop (xs.length - k) := by
  rw [List.drop_eq_getElem_cons (by omega), show xs.length - (k + 1) + 1 = xs.length - k by omega, List.getD_eq_getElem?_getD, List.getElem?_eq_getElem (by omega)]
  congr 1
  simp only [Option.getD_some]
  congr 1
  omega
/-- while the stack is kept -/
def ksI (S S1 : ks_S) (T T1 : Nat → Nat → Option Nat) (sz oz vz1 : Nat → Nat) (xs ys : List (List Nat)) (k : Nat) : Prop := tbS S1 T1 ∧ sfK [365, 366] S S1 (frT T) (frT T1) ∧ S1.2.2 366 = some (kN 1002 vz1) ∧ elR S1 (T1 0) sz xs ∧ elR S1 (T1 1) oz ys ∧ elR S1 (T1 2) vz1 (xs.drop (xs.length - k))
set_option maxRecDepth 100000 in
set_option maxHeartbeats 800000 in
theorem l_ksLoop {l : Launch} {G : ks_G} {d : Nat} {S : ks_S} {V : Nat → Value} {T : Nat → Nat → Option Nat} {sz oz : Nat → Nat} {xs ys : List (List Nat)} {P9 : Option Value → ks_S → Prop} (hO : S.2.2 290 = some (rfE V)) (v67 : V 67 = .int (nI xs.length)) (hx : xs.length ≤ 1001) (h362 : S.2.2 362 = some (kN 1002 sz)) (hlow : ∀ x, x < 563 → ∃ e, S.2.2 x = some e ∧ ∀ g, e ≠ kB 520 g) (hk : ∀ (S1 : ks_S) (T1 : Nat → Nat → Option Nat) (vz1 : Nat → Nat), ksI S S1 T T1 sz oz vz1 xs ys xs.length → P9 none S1) : ∀ (f k : Nat) (S1 : ks_S) (T1 : Nat → Nat → Option Nat) (vz1 : Nat → Nat), k + f = xs.length → ksI S S1 T T1 sz oz vz1 xs ys k → ks_X l G mX16_keepStack (d + 1) 10 [(0, .ref 290), (1, .int (nI k))] [] S1 P9 := by
  intro f
  induction f with
  | zero =>
    intro k S1 T1 vz1 hi I
    obtain ⟨hT, hs, h366, ex, ey, ev⟩ := id I
    have o1 := hs.at hO (by decide)
    have e362 := hs.at h362 (by decide)
    refine ks_iload_n dX16_keepStack_10 rfl rfl ?_
    refine ks_aload_n dX16_keepStack_11 rfl rfl ?_
    refine ks_getf (T := TX16) (kf := 67) kx_2435 rfl in_X16 cl_X16 (by decide) o1 rfl dX16_keepStack_12 rfl ?_
    refine ks_tv v67 ?_
    refine ks_icmp_geN (tgt := 74) (by omega) (by omega) dX16_keepStack_15 (by decide) rfl (fun h1 => ?_) (fun h1 => absurd h1 (by omega))
    refine ks_ret rfl dX16_keepStack_74 ?_
    obtain rfl : k = xs.length := hi
    exact hk S1 T1 vz1 I
  | succ f ih =>
    intro k S1 T1 vz1 hi I
    obtain ⟨hT, hs, h366, ex, ey, ev⟩ := id I
    have o1 := hs.at hO (by decide)
    have e362 := hs.at h362 (by decide)
    refine ks_iload_n dX16_keepStack_10 rfl rfl ?_
    refine ks_aload_n dX16_keepStack_11 rfl rfl ?_
    refine ks_getf (T := TX16) (kf := 67) kx_2435 rfl in_X16 cl_X16 (by decide) o1 rfl dX16_keepStack_12 rfl ?_
    refine ks_tv v67 ?_
    refine ks_icmp_geN (tgt := 74) (by omega) (by omega) dX16_keepStack_15 (by decide) rfl (fun h1 => absurd h1 (by omega)) (fun h1 => ?_)
    refine ks_aload_n dX16_keepStack_18 rfl rfl ?_
    refine ks_getf (T := TX16) (kf := 71) kx_2439 rfl in_X16 cl_X16 (by decide) o1 rfl dX16_keepStack_19 rfl ?_
    refine ks_iload_n dX16_keepStack_22 rfl rfl ?_
    refine ks_callS (n := 2) (M' := mX16_row) (c_md_row (d := d) hT (a := 2) (i := k) (by decide) (by omega)) kx_2181 kx_2182 kx_30 kx_2183 (by decide +kernel) rfl (by decide) (Nat.le_of_ble_eq_true rfl) rfl dX16_keepStack_23 rfl (fun z2 S2 y2 => ?_)
    obtain ⟨T2, r, rfl, hT2, hr, hrest, -, -, sf2, h520⟩ := y2
    have hs2 := hs.trans (sf2.mono (by decide))
    have o2 := hs2.at hO (by decide)
    have f362 := hs2.at h362 (by decide)
    have f366 := sf2.at h366 (by decide)
    have ex2 : elR S2 (T2 0) sz xs := ex.keep (fun i hi => ⟨hrest 0 i (.inl (by decide)), rfl⟩) (fun i r g _ _ h => h520 r g h)
    have ey2 : elR S2 (T2 1) oz ys := ey.keep (fun i hi => ⟨hrest 1 i (.inl (by decide)), rfl⟩) (fun i r g _ _ h => h520 r g h)
    have ldr : (xs.drop (xs.length - k)).length = k := by rw [List.length_drop]; omega
    have ev2 : elR S2 (T2 2) vz1 (xs.drop (xs.length - k)) := ev.keep (fun i hi => ⟨hrest 2 i (.inr (by omega)), rfl⟩) (fun i r g _ _ h => h520 r g h)
    obtain ⟨rs, gs, a1, a2, a3, a4, a5⟩ := ex2 k (by omega)
    obtain ⟨-, gd, kgd, hrr⟩ := hT2.2.2.1 _ _ _ hr
    have hlo : ∀ x, x < 563 → ∀ g, S2.2.2 x ≠ some (kB 520 g) := fun x hx g hg => by
      by_cases hm : x = 365 ∨ x = 366
      · rcases hm with rfl | rfl
        · rw [hT2.1 2 (by decide)] at hg; cases hg
        · rw [f366] at hg; cases hg
      · obtain ⟨e, h1, h2⟩ := hlow x hx
        have h3 := hs2.2 x e h1 (by simp only [List.mem_cons, List.not_mem_nil, or_false]; exact hm) h2
        rw [hg] at h3
        exact h2 g (Option.some.inj h3).symm
    have hr9 := hT2.hi hlo hr
    have hne : rs ≠ r := fun h => by
      rw [h] at a1
      have := (hT2.2.1 _ _ _ _ _ a1 hr).1
      omega
    refine ks_astore_n dX16_keepStack_26 (by decide) rfl ?_
    refine ks_sub [(2, _), (0, _), (1, _)] rfl ?_
    refine ks_iconst (x := nI 0) dX16_keepStack_27 (by decide) rfl ?_
    refine ks_istore_n dX16_keepStack_28 (by decide) rfl ?_
    refine ks_sub [(3, _), (0, _), (1, _), (2, _)] rfl ?_
    refine ks_sub [(0, _), (1, _), (2, _), (3, _)] rfl ?_
    refine l_ksIn o2 a2 a3 hrr kgd (hT2.1 0 (by decide)) a1 f362 (by omega) a4 hr9 hne (fun S3 u3 e3 k3 => ?_) (sz k) 0 S2 (Nat.zero_add _) (ks_up.rf _ _) (by rw [ks_pt_0]; exact hrr)
    have o3 := u3.at o2 (by rw [List.mem_singleton]; omega)
    have g362 := u3.at f362 (by rw [List.mem_singleton]; omega)
    have g366 := u3.at f366 (by rw [List.mem_singleton]; omega)
    have hT3 := hT2.wr u3 hrr e3 k3
    have oth : ∀ a i x g, (a ≠ 2 ∨ i ≠ k) → T2 a i = some x → S2.2.2 x = some (kB 520 g) → S3.2.2 x = some (kB 520 g) := fun a i x g h h1 h2 => u3.at h2 (by
      rw [List.mem_singleton]
      intro e
      rw [e] at h1
      have := hT2.2.1 _ _ _ _ _ h1 hr
      omega)
    refine ks_aload_n dX16_keepStack_56 rfl rfl ?_
    refine ks_getf (T := TX16) (kf := 72) kx_2440 rfl in_X16 cl_X16 (by decide) o3 rfl dX16_keepStack_57 rfl ?_
    refine ks_iload_n dX16_keepStack_60 rfl rfl ?_
    refine ks_aload_n dX16_keepStack_61 rfl rfl ?_
    refine ks_getf (T := TX16) (kf := 66) kx_2434 rfl in_X16 cl_X16 (by decide) o3 rfl dX16_keepStack_62 rfl ?_
    refine ks_iload_n dX16_keepStack_65 rfl rfl ?_
    refine ks_ialdN (i := k) g362 rfl (by omega) (by decide) dX16_keepStack_66 rfl ?_
    refine ks_iastNN (i := k) (v := sz k) (by decide) g366 (by omega) (by decide) dX16_keepStack_67 rfl ?_
    refine ks_incN (c := 1) (e := k + 1) dX16_keepStack_68 rfl (by decide) rfl (by decide) rfl ?_
    refine ks_sub [(1, _), (0, _), (2, _)] rfl ?_
    refine ks_goto (tgt := 10) dX16_keepStack_71 (by decide) ?_
    have u4 : ks_up S3 (ks_set S3 366 (kN 1002 (va_up vz1 k (sz k)))) [366] := ks_up_set _ _ (by decide)
    have hT4 := hT3.up u4 (by decide) (fun x hx => by rw [List.mem_singleton] at hx; subst hx; exact ⟨_, g366, fun g h => by cases h⟩)
    have r366 : r ≠ 366 := fun h => by rw [h] at hr9; exact absurd hr9 (by decide)
    refine ks_sub [(0, _), (1, _)] rfl (ih (k + 1) _ T2 (va_up vz1 k (sz k)) (by omega) ⟨hT4, (hs2.trans ⟨⟨by rw [u3.1], by rw [u3.2.1], by rw [u3.1]; exact Nat.le_refl _⟩, fun a e h1 h2 h3 => u3.at h1 (fun hm => by rw [List.mem_singleton] at hm; subst hm; rw [hrr] at h1; exact h3 gd (Option.some.inj h1).symm)⟩).trans (sfK.of (u4.mono (by decide))), ks_set_same _ _ _, ?_, ?_, ?_⟩)
    · exact ex2.keep (fun i hi => ⟨rfl, rfl⟩) (fun i x g _ h1 h2 => u4.at (oth 0 i x g (.inl (by decide)) h1 h2) (by rw [List.mem_singleton]; intro e; subst e; rw [f366] at h2; cases h2))
    · exact ey2.keep (fun i hi => ⟨rfl, rfl⟩) (fun i x g _ h1 h2 => u4.at (oth 1 i x g (.inl (by decide)) h1 h2) (by rw [List.mem_singleton]; intro e; subst e; rw [f366] at h2; cases h2))
    · rw [ls_drop (by omega)]
      have ev4 : elR (ks_set S3 366 (kN 1002 (va_up vz1 k (sz k)))) (T2 2) (va_up vz1 k (sz k)) (xs.drop (xs.length - k)) := ev2.keep (fun i hi => ⟨rfl, va_up_ne _ _ (by omega)⟩) (fun i x g hi h1 h2 => u4.at (oth 2 i x g (.inr (by omega)) h1 h2) (by rw [List.mem_singleton]; intro e; subst e; rw [f366] at h2; cases h2))
      refine ev4.cons (r := r) (g := ks_pt (fun j => gs j) gd 0 (sz k)) (by rw [ldr]; exact hr) (u4.at e3 (by rw [List.mem_singleton]; exact r366)) k3 (by rw [ldr, va_up_self]; exact a4) ?_
      rw [ldr, va_up_self, a5, bytL_pt]
theorem mqS.kp {S S1 : ks_S} {V : Nat → Value} {F : Nat} {xs ys : List (List Nat)} {vs : Vs} {Gp : Pt} {P y N L t b k p m u e inp : Nat} {G9 : Nat → Nat} {V1 : Nat → Value} {F1 F2 : Nat} {xs1 ys1 : List (List Nat)} {vs1 : Vs} (h : mqS S V F xs ys vs Gp P y N G9 L t b k p m u e inp) (hT9 : mqT P y N G9 k u e inp) (hu : sfK [290, 365, 366] S S1 F2 F1) (o1 : S1.2.2 290 = some (rfE V1)) (hv : ∀ j, j ≠ 73 → V1 j = V j) (hQ : rsQ S1 V1 F1 xs1 ys1 vs1) : mqS S1 V1 F1 xs1 ys1 vs1 Gp P y N G9 L t b k p m u e inp := by
  obtain ⟨hO, hK, hG, hh, h369, hlow, dn, h368⟩ := h
  obtain ⟨-, -, ⟨hy, hP⟩, ⟨hN, -⟩, -⟩ := hT9
  refine ⟨o1, hQ, hG.sf hN hu (fun x hx => ?_) (fun j hj => hv j (by omega)), hh.sf hu (by decide), hu.at h369 (by decide), hlow.sf hu (fun x hx => ?_), dn, hu.at h368 (by decide)⟩
  · have hb : x = 290 ∨ (340 < x ∧ x < 371) := (show ∀ x ∈ ([290, 365, 366] : List Nat), x = 290 ∨ (340 < x ∧ x < 371) by decide) x hx
    omega
  · simp only [List.mem_cons, List.not_mem_nil, or_false] at hx
    rcases hx with rfl | rfl | rfl
    · exact ⟨_, o1, fun g h => by cases h⟩
    · exact hQ.non 365 (by decide)
    · exact hQ.non 366 (by decide)
set_option maxRecDepth 100000 in
set_option maxHeartbeats 800000 in
theorem c_rs_keepStack {l : Launch} {G : ks_G} {d : Nat} {S : ks_S} {V : Nat → Value} {F : Nat} {xs ys : List (List Nat)} {vs : Vs} {Gp : Pt} {P y N L t b k p m u e inp : Nat} {G9 : Nat → Nat} (hM : mqS S V F xs ys vs Gp P y N G9 L t b k p m u e inp) (hT9 : mqT P y N G9 k u e inp) : ks_P l G yX16_keepStack mX16_keepStack (d + 1) [.ref 290] S (fun z S' => z = none ∧ ∃ V' F' vs', sfK [290, 365, 366] S S' F F' ∧ (∀ k, k ≠ 73 → V' k = V k) ∧ mqS S' V' F' xs ys vs' Gp P y N G9 L t b k p m u e inp ∧ vs'.2 = xs) := by
  obtain ⟨hO, hK, hG, hh, h369, hlow, h368⟩ := id hM
  obtain ⟨T, sz, oz, vz, hK', rfl, gS, kS, h367⟩ := hK
  have hK := hK'
  obtain ⟨hT, ⟨h362, h364, h366⟩, ⟨v67, v70, v73⟩, ⟨bx, by9, bv⟩, hx, hys, hvs, hU⟩ := id hK
  refine ks_of (by decide) rfl rfl (Nat.le_of_ble_eq_true rfl) ?_
  show ks_X l G mX16_keepStack (d + 1) 0 [(0, .ref 290)] [] S _
  refine ks_aload_n dX16_keepStack_0 rfl rfl ?_
  refine ks_aload_n dX16_keepStack_1 rfl rfl ?_
  refine ks_getf (T := TX16) (kf := 67) kx_2435 rfl in_X16 cl_X16 (by decide) hO rfl dX16_keepStack_2 rfl ?_
  refine ks_tv v67 ?_
  refine ks_putf (T := TX16) (kf := 73) kx_2441 rfl in_X16 tyX16_ok nmX16 cl_X16 (by decide) hO (Nat.le_of_ble_eq_true rfl) rfl rfl rfl rfl dX16_keepStack_5 rfl ?_
  refine md_put mdp_73 ?_
  refine ks_iconst (x := nI 0) dX16_keepStack_8 (by decide) rfl ?_
  refine ks_istore_n dX16_keepStack_9 (by decide) rfl ?_
  refine ks_sub [(1, _), (0, _)] rfl ?_
  obtain ⟨S1, eS1⟩ : ∃ S1, S1 = ks_set S 290 (rfE (va_up V 73 (.int (nI xs.length)))) := ⟨_, rfl⟩
  rw [← eS1]
  have u1 : ks_up S S1 [290] := by rw [eS1]; exact ks_up_set _ _ (by decide)
  have o1 : S1.2.2 290 = some (rfE (va_up V 73 (.int (nI xs.length)))) := by rw [eS1]; exact ks_set_same _ _ _
  have nx : ∀ x ∈ ([290] : List Nat), ∃ e, S.2.2 x = some e ∧ ∀ g, e ≠ kB 520 g := fun x hx => by
    rw [List.mem_singleton] at hx
    subst hx
    exact ⟨_, hO, fun g h => by cases h⟩
  have hT1 := hT.up u1 (by decide) nx
  have low1 : lowS S1 := hlow.sf (sfK.of (F := 0) u1) (fun x hx => by rw [List.mem_singleton] at hx; subst hx; exact ⟨_, o1, fun g h => by cases h⟩)
  have kp : ∀ x g, S.2.2 x = some (kB 520 g) → S1.2.2 x = some (kB 520 g) := fun x g h => u1.at h (fun hm => by rw [List.mem_singleton] at hm; subst hm; rw [hO] at h; cases h)
  refine ks_sub [(0, _), (1, _)] rfl ?_
  refine l_ksLoop (T := T) (sz := sz) (oz := oz) (ys := ys) o1 ((va_up_ne _ _ (by decide)).trans v67) bx (u1.at h362 (by decide)) low1 (fun S2 T2 vz2 I => ?_) xs.length 0 S1 T vz (Nat.zero_add _) ⟨hT1, sfK.rf _ _ _, u1.at h366 (by decide), hx.keep (fun i hi => ⟨rfl, rfl⟩) (fun i r g _ _ h => kp r g h), hys.keep (fun i hi => ⟨rfl, rfl⟩) (fun i r g _ _ h => kp r g h), ?_⟩
  · obtain ⟨hT2, sf2, e366, ex2, ey2, ev2⟩ := I
    rw [Nat.sub_self, List.drop_zero] at ev2
    have sfa : sfK [290, 365, 366] S S2 (frT T) (frT T2) := (sfK.of (u1.mono (by decide))).trans (sf2.mono (by decide))
    have o2 := sf2.at o1 (by decide)
    have Q2 : rsQ S2 (va_up V 73 (.int (nI xs.length))) (frT T2) xs ys (T2 2, xs) := ⟨T2, sz, oz, vz2, ⟨hT2, ⟨sfa.at h362 (by decide), sfa.at h364 (by decide), e366⟩, ⟨(va_up_ne _ _ (by decide)).trans v67, (va_up_ne _ _ (by decide)).trans v70, va_up_self _ _ _⟩, ⟨bx, by9, bx⟩, ex2, ey2, ev2, rfl⟩, rfl, gS, kS, sfa.at h367 (by decide)⟩
    exact ⟨rfl, va_up V 73 (.int (nI xs.length)), frT T2, (T2 2, xs), sfa, fun k hk => va_up_ne _ _ hk, hM.kp hT9 sfa o2 (fun j hj => va_up_ne _ _ hj) Q2, rfl⟩
  · rw [Nat.sub_zero, List.drop_length]
    exact fun i hi => absurd hi (Nat.not_lt_zero _)
