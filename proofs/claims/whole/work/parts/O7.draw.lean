/-! THE REFERENCE: a block drawn: names, root, target -/
abbrev LAi : List Nat := [291, 292, 293, 299, 305, 529, 530]
abbrev LAa : List Nat := [291, 292, 293, 299, 305, 529, 530, 355, 356, 357, 338, 345, 532]
/-- rows that drawing a block asks for -/
def asR (S : ks_S) : Prop := mhR S ∧ (∃ g, kO g ∧ S.2.2 305 = some (kB 32 g)) ∧ (∃ g, kO g ∧ S.2.2 529 = some (kB 131072 g)) ∧ (∃ g, kO g ∧ S.2.2 530 = some (kB 384 g)) ∧ (∃ g, kO g ∧ S.2.2 355 = some (kB 416 g)) ∧ (∃ g, kO g ∧ S.2.2 356 = some (kB 64 g)) ∧ (∃ g, kO g ∧ S.2.2 357 = some (kB 32 g)) ∧ (∃ X, wA S 338 X) ∧ (∃ f, S.2.2 345 = some (kN 10 f)) ∧ (∃ X, wA S 532 X) ∧ (∃ g, kO g ∧ S.2.2 370 = some (kB 32 g)) ∧ ∃ X, wA S 359 X
theorem idG_at {D : Nat → dTx} {i k : Nat} (hk : k < 32) : idG D (32 * i + k) = txI (D i) k := by
  unfold idG
  rw [show (32 * i + k) / 32 = i by omega, show (32 * i + k) % 32 = k by omega]
set_option maxRecDepth 100000 in
set_option maxHeartbeats 800000 in
theorem l_asI {l : Launch} {G : ks_G} {d : Nat} {S : ks_S} {V : Nat → Value} {t md : Nat} {D : Nat → dTx} (hO : S.2.2 290 = some (rfE V)) (hD : rdS S t D) (v94 : V 94 = .int (nI t)) {P9 : Option Value → ks_S → Prop} (hk : ∀ (S1 : ks_S) (V1 : Nat → Value) (gi : Nat → Nat), pbK LAi [107] S S1 V V1 → mhR S1 → (∃ g, kO g ∧ S1.2.2 305 = some (kB 32 g)) → (∃ g, kO g ∧ S1.2.2 529 = some (kB 131072 g)) → S1.2.2 530 = some (kB 384 gi) → kO gi → (∀ j, j < 32 * t → gi j = idG D j) → ks_X l G mX16_assemble (d + 5) 21 [(0, .ref 290), (1, .int (nI md))] [] S1 P9) : ∀ (u z : Nat) (S1 : ks_S) (V1 : Nat → Value) (gi : Nat → Nat), z + u = t → pbK LAi [107] S S1 V V1 → mhR S1 → (∃ g, kO g ∧ S1.2.2 305 = some (kB 32 g)) → (∃ g, kO g ∧ S1.2.2 529 = some (kB 131072 g)) → S1.2.2 530 = some (kB 384 gi) → kO gi → (∀ j, j < 32 * z → gi j = idG D j) → ks_X l G mX16_assemble (d + 5) 2 [(0, .ref 290), (1, .int (nI md)), (2, .int (nI z))] [] S1 P9 := by
  have ht := hD.1
  intro u
  induction u with
  | zero =>
    intro z S1 V1 gi hz K1 M1 f1 g1 e1 k1 h1
    have v1 : V1 94 = .int (nI t) := (K1.2.2 94 (by decide)).trans v94
    refine ks_iload_n dX16_assemble_2 rfl rfl ?_
    refine ks_aload_n dX16_assemble_3 rfl rfl ?_
    refine ks_getf (T := TX16) (kf := 94) kx_2462 rfl in_X16 cl_X16 (by decide) K1.2.1 rfl dX16_assemble_4 rfl ?_
    refine ks_tv v1 ?_
    obtain rfl : z = t := hz
    refine ks_icmp_geN (tgt := 21) (by omega) (by omega) dX16_assemble_7 (by decide) rfl (fun h2 => ?_) (fun h2 => absurd h2 (by omega))
    exact ks_sub [(0, _), (1, _)] rfl (hk S1 V1 gi K1 M1 f1 g1 e1 k1 h1)
  | succ u ih =>
    intro z S1 V1 gi hz K1 M1 f1 g1 e1 k1 h1
    have v1 : V1 94 = .int (nI t) := (K1.2.2 94 (by decide)).trans v94
    refine ks_iload_n dX16_assemble_2 rfl rfl ?_
    refine ks_aload_n dX16_assemble_3 rfl rfl ?_
    refine ks_getf (T := TX16) (kf := 94) kx_2462 rfl in_X16 cl_X16 (by decide) K1.2.1 rfl dX16_assemble_4 rfl ?_
    refine ks_tv v1 ?_
    refine ks_icmp_geN (tgt := 21) (by omega) (by omega) dX16_assemble_7 (by decide) rfl (fun h2 => absurd h2 (by omega)) (fun h2 => ?_)
    refine ks_aload_n dX16_assemble_10 rfl rfl ?_
    refine ks_iload_n dX16_assemble_11 rfl rfl ?_
    obtain ⟨g5, k5, f1⟩ := f1
    obtain ⟨g9, k9, g1⟩ := g1
    have D1 := hD.up K1.1 (fun x hx => by simp only [LAi, List.mem_cons, List.not_mem_nil, or_false] at hx; omega)
    refine ks_callV (n := 1) (M' := mX16_draftId) (c_md_draftId K1.2.1 D1 (i := z) (by omega) g1 k9 M1 f1 k5 e1 k1) K1.2.1 cl_X16 rfl kx_1967 kx_1969 kxp_56 kx_30 kx_1970 (by decide +kernel) rfl (by decide) (Nat.le_of_ble_eq_true rfl) rfl dX16_assemble_12 rfl (fun z2 S2 y2 => ?_)
    obtain ⟨rfl, V2, X2, u2, o2, vv2, ⟨-, g29, e29, k29, -⟩, M2, f2, e2⟩ := y2
    refine ks_incN (c := 1) (e := z + 1) dX16_assemble_15 rfl (by decide) rfl (by decide) rfl ?_
    refine ks_sub [(2, _), (0, _), (1, _)] rfl ?_
    refine ks_goto (tgt := 2) dX16_assemble_18 (by decide) ?_
    refine ks_sub [(0, _), (1, _), (2, _)] rfl (ih (z + 1) S2 V2 _ (by omega) (K1.trans ⟨u2, o2, fun k hk => vv2 k (fun e => hk (by rw [e]; exact List.mem_singleton.mpr rfl))⟩) M2 f2 ⟨g29, k29, e29⟩ e2 (kO_pt (kO_twice _ _) k1 _ _) (fun j hj => ?_))
    by_cases h : j < 32 * z
    · exact (if_neg (by omega)).trans (h1 j h)
    · obtain ⟨k, rfl⟩ : ∃ k, j = 32 * z + k := ⟨j - 32 * z, by omega⟩
      rw [ks_pt_in _ _ _ _ (show k < 32 by omega), idG_at (by omega)]
set_option maxRecDepth 100000 in
set_option maxHeartbeats 1600000 in
theorem l_asAQ {l : Launch} {G : ks_G} {d : Nat} {S : ks_S} {V : Nat → Value} {t md : Nat} {D : Nat → dTx} (hO : S.2.2 290 = some (rfE V)) (hD : rdS S t D) (v94 : V 94 = .int (nI t)) (hA : asR S) {n q : Nat} {B : Nat → Bk} (v92 : V 92 = .int (nI q)) (hR : rbS S n B) (hq : q < n) (hW : chW n B) (hH : rbH n B) (hhb : bkH (B q) < 2 ^ 30) (h337 : wA S 337 (tg_num 545259519)) (hdb : dueB B q < 2 ^ 32) {P9 : Option Value → ks_S → Prop} (hk : ∀ (S1 : ks_S) (V1 : Nat → Value), pbK LAa [107] S S1 V V1 → asR S1 → wA S1 532 (tg_num (dueB B q)) → (∃ g, kO g ∧ S1.2.2 357 = some (kB 32 g) ∧ ∀ j, j < 32 → g j = root_ (idG D) t j) → ks_X l G mX16_assemble (d + 5) 64 [(0, .ref 290), (1, .int (nI md)), (2, .int (nI (dueB B q)))] [] S1 P9) : ks_X l G mX16_assemble (d + 5) 0 [(0, .ref 290), (1, .int (nI md))] [] S P9 := by
  have ht := hD.1
  obtain ⟨hM, h305, h529, ⟨gi0, ki0, h530⟩, ⟨gt, kt, h355⟩, ⟨gb, kb9, h356⟩, ⟨gr, kr, h357⟩, ⟨x338, w338⟩, ⟨f345, h345⟩, ⟨x532, w532⟩, ⟨g370, k370, h370⟩, x359, w359⟩ := hA
  refine ks_iconst (x := nI 0) dX16_assemble_0 (by decide) rfl ?_
  refine ks_istore_n dX16_assemble_1 (by decide) rfl ?_
  refine ks_sub [(2, _), (0, _), (1, _)] rfl ?_
  have hn61 := hR.2.2
  refine ks_sub [(0, _), (1, _), (2, .int (nI 0))] rfl (l_asI hO hD v94 (fun T1 V1 gi K1 M1 f1 g1 e1 k1 h1 => ?_) t 0 S V gi0 (Nat.zero_add _) ⟨ks_up.rf _ _, hO, fun _ _ => rfl⟩ hM h305 h529 h530 ki0 (fun j hj => by omega))
  have v1 : V1 94 = .int (nI t) := (K1.2.2 94 (by decide)).trans v94
  obtain ⟨g5, k5, f1⟩ := f1
  have v921 : V1 92 = _ := (K1.2.2 92 (by decide)).trans v92
  refine ks_aload_n dX16_assemble_21 rfl rfl ?_
  refine ks_aload_n dX16_assemble_22 rfl rfl ?_
  refine ks_getf (T := TX16) (kf := 108) kx_2476 rfl in_X16 cl_X16 (by decide) K1.2.1 rfl dX16_assemble_23 rfl ?_
  refine ks_aload_n dX16_assemble_26 rfl rfl ?_
  refine ks_getf (T := TX16) (kf := 94) kx_2462 rfl in_X16 cl_X16 (by decide) K1.2.1 rfl dX16_assemble_27 rfl ?_
  refine ks_tv v1 ?_
  refine ks_callV (n := 2) (M' := mX16_root) (c_md_root (d := d) K1.2.1 M1 f1 k5 e1 k1 (c := t) ht (by omega) (by decide) (by decide) (K1.1.at h355 (by decide)) kt (K1.1.at h356 (by decide)) kb9 (K1.1.at h357 (by decide)) kr) K1.2.1 cl_X16 rfl kx_2008 kx_2010 kxp_65 kx_30 kx_2011 (by decide +kernel) rfl (by decide) (Nat.le_of_ble_eq_true rfl) rfl dX16_assemble_30 rfl (fun z2 T2 y2 => ?_)
  obtain ⟨rfl, u2, M2, f2, r355, r356, g2, kg2, e2, hg2⟩ := y2
  have o2 := u2.at K1.2.1 (by decide)
  have K2 : pbK LAa [107] S T2 V V1 := ⟨(K1.1.mono (by decide)).trans (u2.mono (by decide)), o2, K1.2.2⟩
  have hr2 : ∀ j, j < 32 → g2 j = root_ (idG D) t j := fun j hj => (hg2 j hj).trans (root_c h1 j hj)
  have i2 := u2.at e1 (by decide)
  have n2 : ∀ {a : Nat} {e : ks_E}, S.2.2 a = some e → a ∉ 290 :: LAi → a ∉ LRt → T2.2.2 a = some e := fun h3 h4 h5 => u2.at (K1.1.at h3 h4) h5
  refine ks_aload_n dX16_assemble_33 rfl rfl ?_
  refine ks_getf (T := TX16) (kf := 92) kx_2460 rfl in_X16 cl_X16 (by decide) o2 rfl dX16_assemble_34 rfl ?_
  refine ks_tv v921 ?_
  refine ks_if_geN (tgt := 46) (by omega) dX16_assemble_37 (by decide) ?_
  refine ks_aload_n dX16_assemble_46 rfl rfl ?_
  refine ks_aload_n dX16_assemble_47 rfl rfl ?_
  refine ks_getf (T := TX16) (kf := 92) kx_2460 rfl in_X16 cl_X16 (by decide) o2 rfl dX16_assemble_48 rfl ?_
  refine ks_tv v921 ?_
  refine ks_callV (n := 1) (M' := mX16_due) (c_md_due (d := d + 2) o2 (hR.up K2.1 (fun x hx => by simp only [LAa, List.mem_cons, List.not_mem_nil, or_false] at hx; omega)) hq hW hH hhb ((h337.up K1.1 (by decide)).up u2 (by decide)) (n2 h345 (by decide) (by decide)) ((w338.up K1.1 (by decide)).up u2 (by decide))) o2 cl_X16 rfl kx_2012 kx_2014 kxp_66 kx_30 kx_2015 (by decide +kernel) rfl (by decide) (Nat.le_of_ble_eq_true rfl) rfl dX16_assemble_51 rfl (fun z3 T3 y3 => ?_)
  obtain ⟨rfl, u3, x338, x345⟩ := y3
  have o3 := u3.at o2 (by decide)
  have w3 := ((w532.up K1.1 (by decide)).up u2 (by decide)).up u3 (by decide)
  refine ks_istore_n dX16_assemble_54 (by decide) rfl ?_
  refine ks_sub [(2, _), (0, _), (1, _)] rfl ?_
  refine ks_iload_n dX16_assemble_55 rfl rfl ?_
  refine ks_aload_n dX16_assemble_56 rfl rfl ?_
  refine ks_getf (T := TX16) (kf := 112) kx_2480 rfl in_X16 cl_X16 (by decide) o3 rfl dX16_assemble_57 rfl ?_
  refine ks_callS (n := 2) (M' := mX16_target) (c_md_target (b := (dueB B q)) hdb w3 (by decide)) kx_1947 kx_1948 kx_30 kx_1949 (by decide +kernel) rfl (by decide) (Nat.le_of_ble_eq_true rfl) rfl dX16_assemble_60 rfl (fun z4 T4 y4 => ?_)
  obtain ⟨rfl, u4, w4⟩ := y4
  have o4 := u4.at o3 (by decide)
  have U4 : ks_up T2 T4 [338, 345, 532] := (u3.mono (by decide)).trans (u4.mono (by decide))
  refine ks_pop dX16_assemble_63 rfl rfl ?_
  obtain ⟨g52, k52, f52⟩ := f2
  obtain ⟨g29, k29, e29⟩ := g1
  obtain ⟨g55, k55, e55⟩ := r355
  obtain ⟨g56, k56, e56⟩ := r356
  obtain ⟨y338, x338⟩ := x338
  obtain ⟨y345, x345⟩ := x345
  exact ks_sub [(0, _), (1, _), (2, _)] rfl (hk T4 V1 ⟨K2.1.trans (U4.mono (by decide)), o4, K2.2.2⟩ ⟨M2.up U4 (by decide), ⟨g52, k52, U4.at f52 (by decide)⟩, ⟨g29, k29, U4.at (u2.at e29 (by decide)) (by decide)⟩, ⟨gi, k1, U4.at i2 (by decide)⟩, ⟨g55, k55, U4.at e55 (by decide)⟩, ⟨g56, k56, U4.at e56 (by decide)⟩, ⟨g2, kg2, U4.at e2 (by decide)⟩, ⟨y338, x338.up u4 (by decide)⟩, ⟨y345, u4.at x345 (by decide)⟩, ⟨_, w4⟩, ⟨g370, k370, U4.at (n2 h370 (by decide) (by decide)) (by decide)⟩, x359, ((w359.up K1.1 (by decide)).up u2 (by decide)).up U4 (by decide)⟩ w4 ⟨g2, kg2, U4.at e2 (by decide), hr2⟩)
set_option maxRecDepth 100000 in
set_option maxHeartbeats 1600000 in
theorem l_asAZ {l : Launch} {G : ks_G} {d : Nat} {S : ks_S} {V : Nat → Value} {t md : Nat} {D : Nat → dTx} (hO : S.2.2 290 = some (rfE V)) (hD : rdS S t D) (v94 : V 94 = .int (nI t)) (hA : asR S) (v92 : V 92 = .int (nI 0 - 1)) {P9 : Option Value → ks_S → Prop} (hk : ∀ (S1 : ks_S) (V1 : Nat → Value), pbK LAa [107] S S1 V V1 → asR S1 → wA S1 532 (tg_num 545259519) → (∃ g, kO g ∧ S1.2.2 357 = some (kB 32 g) ∧ ∀ j, j < 32 → g j = root_ (idG D) t j) → ks_X l G mX16_assemble (d + 5) 64 [(0, .ref 290), (1, .int (nI md)), (2, .int (nI 545259519))] [] S1 P9) : ks_X l G mX16_assemble (d + 5) 0 [(0, .ref 290), (1, .int (nI md))] [] S P9 := by
  have ht := hD.1
  obtain ⟨hM, h305, h529, ⟨gi0, ki0, h530⟩, ⟨gt, kt, h355⟩, ⟨gb, kb9, h356⟩, ⟨gr, kr, h357⟩, ⟨x338, w338⟩, ⟨f345, h345⟩, ⟨x532, w532⟩, ⟨g370, k370, h370⟩, x359, w359⟩ := hA
  refine ks_iconst (x := nI 0) dX16_assemble_0 (by decide) rfl ?_
  refine ks_istore_n dX16_assemble_1 (by decide) rfl ?_
  refine ks_sub [(2, _), (0, _), (1, _)] rfl ?_
  refine ks_sub [(0, _), (1, _), (2, .int (nI 0))] rfl (l_asI hO hD v94 (fun T1 V1 gi K1 M1 f1 g1 e1 k1 h1 => ?_) t 0 S V gi0 (Nat.zero_add _) ⟨ks_up.rf _ _, hO, fun _ _ => rfl⟩ hM h305 h529 h530 ki0 (fun j hj => by omega))
  have v1 : V1 94 = .int (nI t) := (K1.2.2 94 (by decide)).trans v94
  obtain ⟨g5, k5, f1⟩ := f1
  have v921 : V1 92 = _ := (K1.2.2 92 (by decide)).trans v92
  refine ks_aload_n dX16_assemble_21 rfl rfl ?_
  refine ks_aload_n dX16_assemble_22 rfl rfl ?_
  refine ks_getf (T := TX16) (kf := 108) kx_2476 rfl in_X16 cl_X16 (by decide) K1.2.1 rfl dX16_assemble_23 rfl ?_
  refine ks_aload_n dX16_assemble_26 rfl rfl ?_
  refine ks_getf (T := TX16) (kf := 94) kx_2462 rfl in_X16 cl_X16 (by decide) K1.2.1 rfl dX16_assemble_27 rfl ?_
  refine ks_tv v1 ?_
  refine ks_callV (n := 2) (M' := mX16_root) (c_md_root (d := d) K1.2.1 M1 f1 k5 e1 k1 (c := t) ht (by omega) (by decide) (by decide) (K1.1.at h355 (by decide)) kt (K1.1.at h356 (by decide)) kb9 (K1.1.at h357 (by decide)) kr) K1.2.1 cl_X16 rfl kx_2008 kx_2010 kxp_65 kx_30 kx_2011 (by decide +kernel) rfl (by decide) (Nat.le_of_ble_eq_true rfl) rfl dX16_assemble_30 rfl (fun z2 T2 y2 => ?_)
  obtain ⟨rfl, u2, M2, f2, r355, r356, g2, kg2, e2, hg2⟩ := y2
  have o2 := u2.at K1.2.1 (by decide)
  have K2 : pbK LAa [107] S T2 V V1 := ⟨(K1.1.mono (by decide)).trans (u2.mono (by decide)), o2, K1.2.2⟩
  have hr2 : ∀ j, j < 32 → g2 j = root_ (idG D) t j := fun j hj => (hg2 j hj).trans (root_c h1 j hj)
  have i2 := u2.at e1 (by decide)
  have n2 : ∀ {a : Nat} {e : ks_E}, S.2.2 a = some e → a ∉ 290 :: LAi → a ∉ LRt → T2.2.2 a = some e := fun h3 h4 h5 => u2.at (K1.1.at h3 h4) h5
  refine ks_aload_n dX16_assemble_33 rfl rfl ?_
  refine ks_getf (T := TX16) (kf := 92) kx_2460 rfl in_X16 cl_X16 (by decide) o2 rfl dX16_assemble_34 rfl ?_
  refine ks_tv v921 ?_
  refine ks_if_geD (tgt := 46) (by omega) dX16_assemble_37 (by decide) rfl (fun h3 => absurd h3 (by omega)) (fun h3 => ?_)
  refine ks_ldcw dX16_assemble_40 kx_1946 rfl ?_
  refine ks_ti (y := nI 545259519) rfl ?_
  refine ks_goto (tgt := 54) dX16_assemble_43 (by decide) ?_
  refine ks_istore_n dX16_assemble_54 (by decide) rfl ?_
  refine ks_sub [(2, _), (0, _), (1, _)] rfl ?_
  refine ks_iload_n dX16_assemble_55 rfl rfl ?_
  refine ks_aload_n dX16_assemble_56 rfl rfl ?_
  refine ks_getf (T := TX16) (kf := 112) kx_2480 rfl in_X16 cl_X16 (by decide) o2 rfl dX16_assemble_57 rfl ?_
  have w3 := (w532.up K1.1 (by decide)).up u2 (by decide)
  have u3 : ks_up T2 T2 [338, 345] := ks_up.rf _ _
  have x338 : ∃ X, wA T2 338 X := ⟨_, (w338.up K1.1 (by decide)).up u2 (by decide)⟩
  have x345 : ∃ f, T2.2.2 345 = some (kN 10 f) := ⟨_, n2 h345 (by decide) (by decide)⟩
  have o3 := o2
  refine ks_callS (n := 2) (M' := mX16_target) (c_md_target (b := 545259519) (by decide) w3 (by decide)) kx_1947 kx_1948 kx_30 kx_1949 (by decide +kernel) rfl (by decide) (Nat.le_of_ble_eq_true rfl) rfl dX16_assemble_60 rfl (fun z4 T4 y4 => ?_)
  obtain ⟨rfl, u4, w4⟩ := y4
  have o4 := u4.at o3 (by decide)
  have U4 : ks_up T2 T4 [338, 345, 532] := (u3.mono (by decide)).trans (u4.mono (by decide))
  refine ks_pop dX16_assemble_63 rfl rfl ?_
  obtain ⟨g52, k52, f52⟩ := f2
  obtain ⟨g29, k29, e29⟩ := g1
  obtain ⟨g55, k55, e55⟩ := r355
  obtain ⟨g56, k56, e56⟩ := r356
  obtain ⟨y338, x338⟩ := x338
  obtain ⟨y345, x345⟩ := x345
  exact ks_sub [(0, _), (1, _), (2, _)] rfl (hk T4 V1 ⟨K2.1.trans (U4.mono (by decide)), o4, K2.2.2⟩ ⟨M2.up U4 (by decide), ⟨g52, k52, U4.at f52 (by decide)⟩, ⟨g29, k29, U4.at (u2.at e29 (by decide)) (by decide)⟩, ⟨gi, k1, U4.at i2 (by decide)⟩, ⟨g55, k55, U4.at e55 (by decide)⟩, ⟨g56, k56, U4.at e56 (by decide)⟩, ⟨g2, kg2, U4.at e2 (by decide)⟩, ⟨y338, x338.up u4 (by decide)⟩, ⟨y345, u4.at x345 (by decide)⟩, ⟨_, w4⟩, ⟨g370, k370, U4.at (n2 h370 (by decide) (by decide)) (by decide)⟩, x359, ((w359.up K1.1 (by decide)).up u2 (by decide)).up U4 (by decide)⟩ w4 ⟨g2, kg2, U4.at e2 (by decide), hr2⟩)
