/-! THE REFERENCE: keep -/
theorem blk_cg {f g : Nat → Nat} {n : Nat} (h : ∀ j, j < n → f j = g j) : blk_ f n = blk_ g n := by
  unfold blk_
  by_cases h8 : 80 < n
  · rw [h 80 h8, bs_congr h]
  · rw [decide_eq_false (fun q => h8 q.1), decide_eq_false (fun q => h8 q.1)]
abbrev LKq : List Nat := [290, 291, 292, 293, 299, 305, 341]
abbrev LKp : List Nat := [290, 291, 292, 293, 299, 305, 338, 339, 340, 341, 358]
/-- the machine over all that reading and keeping do -/
theorem mqB.any {S S1 : ks_S} {V V1 : Nat → Value} {F : Nat} {Gp : Pt} {L : List Nat} (h : mqB S V F Gp) (hs : ∀ a e, S.2.2 a = some e → a ∉ L → S1.2.2 a = some e) (hL : ∀ x ∈ L, x = 290 ∨ (290 < x ∧ x < 300) ∨ x = 305 ∨ (336 < x ∧ x < 361) ∨ (373 < x ∧ x < 547) ∨ 562 < x) (h2 : ∀ x ∈ L, (∀ g, S.2.2 x ≠ some (kB 520 g)) ∧ ∃ e, S1.2.2 x = some e ∧ ∀ g, e ≠ kB 520 g) (o1 : S1.2.2 290 = some (rfE V1)) (hv : ∀ j ∈ ([67, 70, 73, 87, 88, 89, 91] : List Nat), V1 j = V j) (mh : mhR S1) (h5 : ∃ g, kO g ∧ S1.2.2 305 = some (kB 32 g)) (hn : nwS S1) (hr : S1.1 + F + 2 < ks_B) : mqB S1 V1 F Gp := by
  obtain ⟨xs, ys, vs, hO, hK, ⟨-, ⟨g6, k6, m3⟩, ⟨X, m4⟩, ⟨c, m5⟩, m6⟩, hh, h369, hlow, dn, h368⟩ := h
  have n : ∀ a, (299 < a ∧ a < 305) ∨ (305 < a ∧ a ≤ 336) ∨ (361 ≤ a ∧ a ≤ 373) ∨ (547 ≤ a ∧ a ≤ 562) → a ∉ L := fun a h1 hm => by have := hL a hm; omega
  have uf : sfK L S (S.1, S.2.1, S1.2.2) 0 0 := ⟨⟨rfl, rfl, Nat.le_refl _⟩, fun a e h1 h2 _ => hs a e h1 h2⟩
  have s9 : ∀ {a : Nat} {e : ks_E}, S.2.2 a = some e → ((299 < a ∧ a < 305) ∨ (305 < a ∧ a ≤ 336) ∨ (361 ≤ a ∧ a ≤ 373) ∨ (547 ≤ a ∧ a ≤ 562)) → S1.2.2 a = some e := fun h1 h2 => hs _ _ h1 (n _ h2)
  obtain ⟨T, sz, oz, vz, ⟨⟨t1, t2, t3, t4, t5⟩, ⟨r1, r2, r3⟩, ⟨a1, a2, a3⟩, bb, e1, e2, e3, e4⟩, eF, gS, kS, h367⟩ := hK
  have el : ∀ {tb : Nat → Option Nat} {z : Nat → Nat} {l : List (List Nat)}, elR S tb z l → elR S1 tb z l := fun h i hi => by
    obtain ⟨r, g, b1, b2, b3, b4⟩ := h i hi
    exact ⟨r, g, b1, hs _ _ b2 (fun hm => (h2 r hm).1 g b2), b3, b4⟩
  have K1 : rsQ S1 V1 F xs ys vs := ⟨T, sz, oz, vz, ⟨⟨fun a ha => s9 (t1 a ha) (by omega), t2, fun a i r hr => by
    obtain ⟨b1, g, b2, b3⟩ := t3 a i r hr
    exact ⟨b1, g, b2, hs _ _ b3 (fun hm => (h2 r hm).1 g b3)⟩, hn, by rw [eF]; exact hr⟩, ⟨s9 r1 (by decide), s9 r2 (by decide), s9 r3 (by decide)⟩, ⟨(hv _ (by decide)).trans a1, (hv _ (by decide)).trans a2, (hv _ (by decide)).trans a3⟩, bb, el e1, el e2, el e3, e4⟩, eF, gS, kS, s9 h367 (by decide)⟩
  have hcc : ccS (S.1, S.2.1, S1.2.2) Gp := m6.sf uf (fun x hx => by have := hL x hx; omega)
  obtain ⟨-, mr, -, g7, k7, e370⟩ := hh
  have hmr : mrR (S.1, S.2.1, S1.2.2) := mr.sf uf (fun x hx => by have := hL x hx; omega)
  have hct : ctX (S.1, S.2.1, S1.2.2) V1 c := m5.sf uf ⟨n _ (by decide), n _ (by decide)⟩ ⟨hv _ (by decide), hv _ (by decide), hv _ (by decide)⟩
  have hbu : buX (S.1, S.2.1, S1.2.2) V1 373 16384 91 X := m4.sf (by decide) uf (n _ (by decide)) (hv _ (by decide))
  refine ⟨xs, ys, vs, o1, K1, ⟨⟨mh, h5⟩, ⟨g6, k6, s9 m3 (by decide)⟩, ⟨X, hbu⟩, ⟨c, hct⟩, hcc⟩, ⟨mh, hmr, h5, g7, k7, s9 e370 (by decide)⟩, s9 h369 (by decide), fun x hx => ?_, dn, s9 h368 (by decide)⟩
  by_cases hm : x ∈ L
  · exact (h2 x hm).2
  · obtain ⟨e, b1, b2⟩ := hlow x hx
    exact ⟨e, hs _ _ b1 hm, b2⟩
/-- a block was made and read -/
def kpI (S S7 : ks_S) (V V7 : Nat → Value) (n : Nat) (bf : Nat → Option Nat) (M : List Nat) : Prop := (S7.1 = S.1 + 12 ∧ S7.2.1 = S.2.1 + 2114 ∧ nwS S7) ∧ (∀ a e, S.2.2 a = some e → a ∉ LKq → S7.2.2 a = some e) ∧ (S7.2.2 290 = some (rfE V7) ∧ ∀ k, k < 36 ∨ 39 < k → V7 k = V k) ∧ (mhR S7 ∧ ∃ g, kO g ∧ S7.2.2 305 = some (kB 32 g)) ∧ S7.2.2 341 = some (.inl (7, 61, .inr (.inr (.inr (.inr (va_up bf n (some S.1))))))) ∧ S7.2.2 S.1 = some (.inr (15, [.ref (S.1 + 1), .int (nI M.length), .ref (S.1 + 2), .ref (S.1 + 3), .int (nI 0), .int (nI 0), .int (ks_bo false), .int (ks_bo false), .ref (S.1 + 11)])) ∧ pdK S7 (S.1 + 3) (S.1 + 1) 1600 M ∧ (∃ gh, S7.2.2 (S.1 + 2) = some (kB 32 gh) ∧ kO gh ∧ ∀ j, j < 32 → gh j = hsB M j) ∧ S7.2.2 (S.1 + 11) = some (kN 8 (fun _ => 0))
set_option maxRecDepth 100000 in
set_option maxHeartbeats 800000 in
theorem l_kpCp {l : Launch} {G : ks_G} {d : Nat} {S : ks_S} {V : Nat → Value} {P : Option Value → ks_S → Prop} {gd gs : Nat → Nat} {x y N L : Nat} {j3 : Int32} (hO : S.2.2 290 = some (rfE V)) (hs9 : S.2.2 y = some (kB N gs)) (kgs : kO gs) (hd9 : S.2.2 (x + 1) = some (kB 1600 gd)) (kgd : kO gd) (hx9 : S.2.2 x = some (.inr (15, [.ref (x + 1), .int (nI 0), .ref (x + 2), .ref (x + 3), .int (nI 0), .int (nI 0), .int (ks_bo false), .int (ks_bo false), .ref (x + 11)]))) (hL : L ≤ 1600 ∧ L ≤ N) (hN : N < 2 ^ 28) (hx5 : 564 < x) (hyx : y < x) (hk : ∀ S1 : ks_S, ks_up S S1 [(x + 1)] → S1.2.2 (x + 1) = some (kB 1600 (ks_pt (fun j => gs (j)) gd 0 L)) → kO (ks_pt (fun j => gs (j)) gd 0 L) → ks_X l G mX16_keep d 66 [(0, .ref 290), (1, .ref y), (2, .int (nI L)), (3, .int j3), (4, .ref x)] [] S1 P) : ∀ (u i : Nat) (S1 : ks_S), i + u = L → ks_up S S1 [(x + 1)] → S1.2.2 (x + 1) = some (kB 1600 (ks_pt (fun j => gs (j)) gd 0 i)) → ks_X l G mX16_keep d 42 [(0, .ref 290), (1, .ref y), (2, .int (nI L)), (3, .int j3), (4, .ref x), (5, .int (nI i))] [] S1 P := by
  have kD : kO (fun j => gs (j)) := fun j => kgs _
  intro u
  induction u with
  | zero =>
    intro i S1 hi hu e1
    have o1 := hu.at hO (by simp only [List.mem_cons, List.not_mem_nil, or_false]; exact (by omega))
    have s1 := hu.at hs9 (by simp only [List.mem_cons, List.not_mem_nil, or_false]; exact (by omega))
    have x1 := hu.at hx9 (by rw [List.mem_singleton]; omega)
    obtain rfl : i = L := hi
    refine ks_iload dX16_keep_42 rfl rfl ?_
    refine ks_iload_n dX16_keep_44 rfl rfl ?_
    refine ks_icmp_geN (tgt := 66) (by omega) (by omega) dX16_keep_45 (by decide) rfl (fun h1 => ?_) (fun h1 => absurd h1 (by omega))
    refine ks_sub [(0, _), (1, _), (2, _), (3, _), (4, _)] rfl ?_
    exact hk S1 hu e1 (kO_pt kD kgd _ _)
  | succ u ih =>
    intro i S1 hi hu e1
    have o1 := hu.at hO (by simp only [List.mem_cons, List.not_mem_nil, or_false]; exact (by omega))
    have s1 := hu.at hs9 (by simp only [List.mem_cons, List.not_mem_nil, or_false]; exact (by omega))
    have x1 := hu.at hx9 (by rw [List.mem_singleton]; omega)
    refine ks_iload dX16_keep_42 rfl rfl ?_
    refine ks_iload_n dX16_keep_44 rfl rfl ?_
    refine ks_icmp_geN (tgt := 66) (by omega) (by omega) dX16_keep_45 (by decide) rfl (fun h1 => absurd h1 (by omega)) (fun h1 => ?_)
    refine ks_aload dX16_keep_48 rfl rfl ?_
    refine ks_getN (T := TX12) (kf := 0) kx_2058 rfl in_X12 cl_X12 (by decide) x1 rfl dX16_keep_50 rfl ?_
    refine ks_iload dX16_keep_53 rfl rfl ?_
    refine ks_aload_n dX16_keep_55 rfl rfl ?_
    refine ks_iload dX16_keep_56 rfl rfl ?_
    refine ks_baldB (i := i) s1 rfl (by omega) (by omega) dX16_keep_58 rfl ?_
    refine ks_bastB (i := i) (c := gs i) e1 rfl (by omega) (by decide) (ks_by_b (kgs _)) dX16_keep_59 rfl ?_
    refine ks_incN (c := 1) (e := i + 1) dX16_keep_60 rfl (by decide) rfl (by decide) rfl ?_
    refine ks_sub [(5, _), (0, _), (1, _), (2, _), (3, _), (4, _)] rfl ?_
    refine ks_goto (tgt := 42) dX16_keep_63 (by decide) ?_
    refine ks_sub [(0, _), (1, _), (2, _), (3, _), (4, _), (5, _)] rfl (ih (i + 1) _ (by omega) (hu.trans (ks_up_set _ _ (List.mem_singleton.mpr rfl))) ?_)
    rw [ks_set_same, ← ks_pt_s]
    rw [Nat.zero_add]
set_option maxRecDepth 100000 in
set_option maxHeartbeats 1600000 in
theorem l_kpA {l : Launch} {G : ks_G} {d : Nat} {S : ks_S} {V : Nat → Value} {n y N : Nat} {M : List Nat} {g : Nat → Nat} {bf : Nat → Option Nat} (hO : S.2.2 290 = some (rfE V)) (hn : nwS S) (hx5 : 565 ≤ S.1) (hr : S.1 + 30 < ks_B) (h341 : S.2.2 341 = some (.inl (7, 61, .inr (.inr (.inr (.inr bf)))))) (hbn : bf n = none) (v47 : V 47 = .int (nI n)) (hn60 : n < 61) (hm : mhR S ∧ ∃ g, kO g ∧ S.2.2 305 = some (kB 32 g)) (hy : S.2.2 y = some (kB N g)) (kg : kO g) (hy5 : y < ks_B) (hML : M.length ≤ 1600 ∧ M.length ≤ N) (hN : N < 2 ^ 28) (hg : ∀ j, j < M.length → g j = mg M j) (hbl : blk_ (mg M) M.length = true) {j3 : Int32} {P9 : Option Value → ks_S → Prop} (hk : ∀ (S7 : ks_S) (V7 : Nat → Value), kpI S S7 V V7 n bf M → ks_X l G mX16_keep (d + 5) 106 [(0, .ref 290), (3, .int j3), (4, .ref S.1)] [] S7 P9) : ks_X l G mX16_keep (d + 5) 0 [(0, .ref 290), (1, .ref y), (2, .int (nI M.length)), (3, .int j3)] [] S P9 := by
  obtain ⟨x, hS1⟩ : ∃ x, S.1 = x := ⟨_, rfl⟩
  rw [hS1] at hk hx5 hr
  have hyx : y < x := by
    have := hn.lt hy
    omega
  obtain ⟨mh, g5, k5, h305⟩ := hm
  refine ks_aload_n dX16_keep_0 rfl rfl ?_
  refine ks_getf (T := TX16) (kf := 46) kx_2414 rfl in_X16 cl_X16 (by decide) hO rfl dX16_keep_1 rfl ?_
  refine ks_aload_n dX16_keep_4 rfl rfl ?_
  refine ks_getf (T := TX16) (kf := 47) kx_2415 rfl in_X16 cl_X16 (by decide) hO rfl dX16_keep_5 rfl ?_
  refine ks_tv v47 ?_
  refine ks_aaldO (i := n) (by decide) h341 rfl (by omega) (by decide) hbn dX16_keep_8 rfl ?_
  refine ks_ifnonnullN dX16_keep_9 rfl ?_
  refine ks_aload_n dX16_keep_12 rfl rfl ?_
  refine ks_getf (T := TX16) (kf := 46) kx_2414 rfl in_X16 cl_X16 (by decide) hO rfl dX16_keep_13 rfl ?_
  refine ks_aload_n dX16_keep_16 rfl rfl ?_
  refine ks_getf (T := TX16) (kf := 47) kx_2415 rfl in_X16 cl_X16 (by decide) hO rfl dX16_keep_17 rfl ?_
  refine ks_tv v47 ?_
  refine ks_newcx (ci := 15) (x := x) (ty0 := tyX12) (fs := [.null, .int (nI 0), .null, .null, .int (nI 0), .int (nI 0), .int (ks_bo false), .int (ks_bo false), .null]) hS1 kx_1805 kx_2050 kx_34 in_X12 tyX12_ok cl_X12 (fun j hj => by rcases j with _ | _ | _ | _ | _ | _ | _ | _ | _ | j <;> first | rfl | (exfalso; omega)) rfl (by omega) dX16_keep_20 rfl (fun T1 q1 => ?_)
  refine ks_dup dX16_keep_23 rfl rfl ?_
  refine ks_callIN (n := 0) (M' := mX12_init) (c_bl_init (d := d + 2) (N := x) q1.2.2.1 q1.1 (by omega)) rfl rfl kx_2051 kx_2052 kx_34 kx_2053 (by decide +kernel) rfl (by decide) (Nat.le_of_ble_eq_true rfl) rfl dX16_keep_24 rfl (fun z2 U2 y2 => ?_)
  obtain ⟨rfl, m2, s2, f2, xO, x1, x2, x11, x3, xr, x10⟩ := y2
  have f2_2701 := ((f2 _ (by omega)).trans ((q1.2.2.2 _ (by omega)).trans hO))
  have f2_2702 := ((f2 _ (by omega)).trans ((q1.2.2.2 _ (by omega)).trans h341))
  have f2_2703 := ((f2 _ (by omega)).trans ((q1.2.2.2 _ (by omega)).trans hy))
  refine ks_aastN (i := n) (t := 7) rfl (by decide) cl_X12 f2_2702 xO rfl (by omega) (by decide) dX16_keep_27 rfl ?_
  obtain ⟨S3, eS3⟩ : ∃ S3, S3 = ks_set U2 341 (.inl (7, 61, .inr (.inr (.inr (.inr (va_up bf n (some x))))))) := ⟨_, rfl⟩
  rw [← eS3]
  have old3 : ∀ a e, S.2.2 a = some e → a ≠ 341 → S3.2.2 a = some e := fun a e ha h1 => by
    have := hn.lt ha
    rw [eS3, ks_set_ne _ _ h1, f2 _ (by omega), q1.2.2.2 _ (by omega)]
    exact ha
  have new3 : ∀ a, a ≠ 341 → S3.2.2 a = U2.2.2 a := fun a h1 => by rw [eS3]; exact ks_set_ne _ _ h1
  have e341 : S3.2.2 341 = some (.inl (7, 61, .inr (.inr (.inr (.inr (va_up bf n (some x))))))) := by rw [eS3]; exact ks_set_same _ _ _
  have nw3 : ∀ a, x + 12 ≤ a → a < ks_B → S3.2.2 a = none := fun a h1 h2 => by
    rw [new3 a (by omega), f2 _ (by omega), q1.2.2.2 _ (by omega)]
    exact hn a (by omega) h2
  have c31 : S3.1 = x + 12 := by rw [eS3]; exact m2
  have c32 : S3.2.1 = S.2.1 + 2114 := by
    rw [eS3]
    show U2.2.1 = _
    have := q1.2.1
    omega
  have o3 := old3 _ _ hO (by decide)
  have y3 := old3 _ _ hy (by intro h; rw [h, h341] at hy; cases hy)
  have X3 := (new3 x (by omega)).trans xO
  have X31 := (new3 (x + 1) (by omega)).trans x1
  have X32 := (new3 (x + 2) (by omega)).trans x2
  have X33 := (new3 (x + 3) (by omega)).trans x3
  have X3b := (new3 (x + 11) (by omega)).trans x11
  have X3r : ∀ r, r < 6 → S3.2.2 (x + 3 + 1 + r) = some (kN 12 (fun _ => 0)) := fun r hr => (new3 _ (by omega)).trans (xr r hr)
  have X3a := (new3 (x + 3 + 7) (by omega)).trans x10
  refine ks_aload_n dX16_keep_28 rfl rfl ?_
  refine ks_getf (T := TX16) (kf := 46) kx_2414 rfl in_X16 cl_X16 (by decide) o3 rfl dX16_keep_29 rfl ?_
  refine ks_aload_n dX16_keep_32 rfl rfl ?_
  refine ks_getf (T := TX16) (kf := 47) kx_2415 rfl in_X16 cl_X16 (by decide) o3 rfl dX16_keep_33 rfl ?_
  refine ks_tv v47 ?_
  refine ks_aaldN (i := n) (b := x) (by decide) e341 rfl (by omega) (by decide) (va_up_self _ _ _) dX16_keep_36 rfl ?_
  refine ks_astore dX16_keep_37 (by decide) rfl ?_
  refine ks_sub [(4, _), (0, _), (1, _), (2, _), (3, _)] rfl ?_
  refine ks_iconst (x := nI 0) dX16_keep_39 (by decide) rfl ?_
  refine ks_istore dX16_keep_40 (by decide) rfl ?_
  refine ks_sub [(5, _), (0, _), (1, _), (2, _), (3, _), (4, _)] rfl ?_
  refine ks_sub [(0, _), (1, _), (2, _), (3, _), (4, _), (5, _)] rfl ?_
  refine l_kpCp (gd := fun _ => 0) o3 y3 kg X31 kO_zero X3 hML hN (by omega) hyx (fun S4 u4 e4 k4 => ?_) M.length 0 S3 (Nat.zero_add _) (ks_up.rf _ _) (by rw [ks_pt_0]; exact X31)
  obtain ⟨g4, eg4⟩ : ∃ z, z = ks_pt (fun j => g j) (fun _ => 0) 0 M.length := ⟨_, rfl⟩
  rw [← eg4] at e4 k4
  have a4 : ∀ j, j < M.length → g4 j = mg M j := fun j hj => by
    rw [eg4]
    have : ks_pt (fun j => g j) (fun _ => 0) 0 M.length j = g j := by
      unfold ks_pt
      rw [if_pos ⟨Nat.zero_le _, by omega⟩, Nat.sub_zero]
    rw [this]
    exact hg j hj
  have t4 : ∀ {a : Nat} {e : ks_E}, S3.2.2 a = some e → a ≠ x + 1 → S4.2.2 a = some e := fun h1 h2 => u4.at h1 (by rw [List.mem_singleton]; exact h2)
  have o4 := t4 o3 (by omega)
  have X4 := t4 X3 (by omega)
  refine ks_aload dX16_keep_66 rfl rfl ?_
  refine ks_iload_n dX16_keep_68 rfl rfl ?_
  refine ks_putN (T := TX12) (kf := 1) kx_2059 rfl in_X12 tyX12_ok nmX12 cl_X12 (by decide) X4 (Nat.le_of_ble_eq_true rfl) rfl rfl rfl rfl dX16_keep_69 rfl ?_
  refine ks_aload_n dX16_keep_72 rfl rfl ?_
  refine ks_aload dX16_keep_73 rfl rfl ?_
  refine ks_getN (T := TX12) (kf := 0) kx_2058 rfl in_X12 cl_X12 (by decide) (ks_set_same _ _ _) rfl dX16_keep_75 rfl ?_
  refine ks_iload_n dX16_keep_78 rfl rfl ?_
  refine ks_aload dX16_keep_79 rfl rfl ?_
  refine ks_getN (T := TX12) (kf := 3) kx_2063 rfl in_X12 cl_X12 (by decide) (ks_set_same _ _ _) rfl dX16_keep_81 rfl ?_
  obtain ⟨S5, eS5⟩ : ∃ S5, S5 = ks_set S4 x (.inr (15, [.ref (x + 1), .int (nI M.length), .ref (x + 2), .ref (x + 3), .int (nI 0), .int (nI 0), .int (ks_bo false), .int (ks_bo false), .ref (x + 11)])) := ⟨_, rfl⟩
  refine ks_tS eS5.symm ?_
  have u5 : ks_up S4 S5 [x] := by rw [eS5]; exact ks_up_set _ _ (List.mem_singleton.mpr rfl)
  have X5 : S5.2.2 x = some (.inr (15, [.ref (x + 1), .int (nI M.length), .ref (x + 2), .ref (x + 3), .int (nI 0), .int (nI 0), .int (ks_bo false), .int (ks_bo false), .ref (x + 11)])) := by rw [eS5]; exact ks_set_same _ _ _
  have t5 : ∀ {a : Nat} {e : ks_E}, S3.2.2 a = some e → a ≠ x + 1 → a ≠ x → S5.2.2 a = some e := fun h1 h2 h3 => u5.at (t4 h1 h2) (by rw [List.mem_singleton]; exact h3)
  have e5 := u5.at e4 (by rw [List.mem_singleton]; omega)
  have o5 := t5 o3 (by omega) (by omega)
  have mh3 : mhR (S.1, S.2.1, S5.2.2) := mh.sf (L := [341, x, x + 1]) (F := 0) (F' := 0) ⟨⟨rfl, rfl, Nat.le_refl _⟩, fun a e h1 h2 h3 => t5 (old3 a e h1 (fun h => h2 (by rw [h]; simp))) (fun h => h2 (by rw [h]; simp)) (fun h => h2 (by rw [h]; simp))⟩ (fun z hz => by simp only [List.mem_cons, List.not_mem_nil, or_false] at hz; omega)
  have mh5 : mhR S5 := mh3
  have f305 := t5 (old3 _ _ h305 (by decide)) (by omega) (by omega)
  refine ks_callV (n := 3) (M' := mX16_parse) (c_md_parse k4 hML.1 (by decide) (by omega) (by omega) e5 ⟨by omega, .inl (by omega)⟩ o5 (t5 X33 (by omega) (by omega)) (fun r hr => t5 (X3r r hr) (by omega) (by omega)) (t5 X3a (by omega) (by omega)) kO_zero mh5 f305 k5) o5 cl_X16 rfl kx_2089 kx_2091 kxp_72 kx_30 kx_2092 (by decide +kernel) rfl (by decide) (Nat.le_of_ble_eq_true rfl) rfl dX16_keep_84 rfl (fun z6 S6 y6 => ?_)
  obtain ⟨rfl, u6, ⟨V6, o6, hv6⟩, mh6, ⟨g56, k56, h56⟩, c6, A6, gi6, X6, hc6⟩ := y6
  have eb6 : blk_ g4 M.length = true := by rw [blk_cg a4]; exact hbl
  obtain ⟨ec6, hp6⟩ := hc6 eb6
  have ec : c6 = mg M 80 := by rw [ec6]; exact a4 80 (blk_b hbl).1
  rw [ec] at X6 hp6
  have t6 : ∀ {a : Nat} {e : ks_E}, S5.2.2 a = some e → a ∉ LPr (x + 3) → S6.2.2 a = some e := fun h1 h2 => u6.at h1 h2
  have nP : ∀ a, (299 < a ∧ a < 305) ∨ (305 < a ∧ a < x + 3) ∨ x + 10 < a ∨ a < 290 ∨ (293 < a ∧ a < 299) → a ∉ LPr (x + 3) := fun a h1 hm => by
    simp only [LPr, List.mem_cons, List.not_mem_nil, or_false] at hm
    omega
  have e6 := t6 e5 (nP _ (by omega))
  have pd6 : pdK S6 (x + 3) (x + 1) 1600 M := ⟨g4, A6, gi6, ⟨e6, k4⟩, ⟨hML.1, by decide, by omega, by omega, by omega⟩, a4, hbl, X6, pdA_of a4 hbl hp6⟩
  have X62 := t6 (t5 X32 (by omega) (by omega)) (nP _ (by omega))
  refine ks_pop dX16_keep_87 rfl rfl ?_
  refine ks_aload_n dX16_keep_88 rfl rfl ?_
  refine ks_aload dX16_keep_89 rfl rfl ?_
  refine ks_getN (T := TX12) (kf := 0) kx_2058 rfl in_X12 cl_X12 (by decide) (t6 X5 (nP _ (by omega))) rfl dX16_keep_91 rfl ?_
  refine ks_iconst (x := nI 0) dX16_keep_94 (by decide) rfl ?_
  refine ks_bipush (x := nI 80) dX16_keep_95 (by decide) rfl ?_
  refine ks_aload dX16_keep_97 rfl rfl ?_
  refine ks_getN (T := TX12) (kf := 2) kx_2061 rfl in_X12 cl_X12 (by decide) (t6 X5 (nP _ (by omega))) rfl dX16_keep_99 rfl ?_
  refine ks_iconst (x := nI 0) dX16_keep_102 (by decide) rfl ?_
  refine ks_callV (n := 5) (M' := mX16_again) (c_md_again o6 mh6 h56 k56 e6 k4 (i := 0) (n := 80) (by decide) (by decide) X62 kO_zero (oa := 0) (by decide) (by decide) (by omega) ⟨by omega, by omega⟩) o6 cl_X16 rfl kx_1988 kx_1990 kxp_61 kx_30 kx_1991 (by decide +kernel) rfl (by decide) (Nat.le_of_ble_eq_true rfl) rfl dX16_keep_103 rfl (fun z7 S7 y7 => ?_)
  obtain ⟨rfl, u7, mh7, h57, e7⟩ := y7
  have t7 : ∀ {a : Nat} {e : ks_E}, S6.2.2 a = some e → (a < 291 ∨ (293 < a ∧ a < 299) ∨ (299 < a ∧ a < 305) ∨ 305 < a) → a ≠ x + 2 → S7.2.2 a = some e := fun h1 h2 h3 => u7.at h1 (fun hm => by simp only [List.mem_cons, List.not_mem_nil, or_false] at hm; omega)
  have o7 := t7 o6 (by decide) (by omega)
  refine ks_sub [(0, _), (3, _), (4, _)] rfl (hk S7 V6 ?_)
  have c71 : S7.1 = S3.1 := by rw [u7.1, u6.1, u5.1, u4.1]
  have c72 : S7.2.1 = S3.2.1 := by rw [u7.2.1, u6.2.1, u5.2.1, u4.2.1]
  unfold kpI
  rw [hS1]
  refine ⟨⟨by rw [c71, c31], by rw [c72, c32], fun a h1 h2 => ?_⟩, fun a e ha h2 => ?_, ⟨o7, hv6⟩, ⟨mh7, h57⟩, t7 (t6 (t5 e341 (by omega) (by omega)) (nP _ (by omega))) (by omega) (by omega), t7 (t6 X5 (nP _ (by omega))) (by omega) (by omega), pd6.up u7 (fun z hz => by simp only [List.mem_cons, List.not_mem_nil, or_false] at hz; omega), ⟨_, e7, kO_pt (kO_twice _ _) kO_zero _ _, fun j hj => ?_⟩, t7 (t6 (t5 X3b (by omega) (by omega)) (nP _ (by omega))) (by omega) (by omega)⟩
  · rw [c71, c31] at h1
    rw [u7.2.2 a (fun hm => by simp only [List.mem_cons, List.not_mem_nil, or_false] at hm; omega), u6.2.2 a (nP _ (by omega)), u5.2.2 a (by rw [List.mem_singleton]; omega), u4.2.2 a (by rw [List.mem_singleton]; omega)]
    exact nw3 a h1 h2
  · have ha9 := hn.lt ha
    simp only [List.mem_cons, List.not_mem_nil, or_false, not_or] at h2
    refine t7 (t6 (t5 (old3 a e ha (by omega)) (by omega) (by omega)) ?_) (by omega) (by omega)
    intro hm
    simp only [LPr, List.mem_cons, List.not_mem_nil, or_false] at hm
    omega
  · have e9 := ks_pt_in (twice_ (fun k => g4 (0 + k)) 80) (fun _ => 0) 0 32 hj
    rw [Nat.zero_add] at e9
    rw [e9]
    unfold hsB
    rw [twice_congr (m' := mg M) (fun z hz => by rw [Nat.zero_add]; exact a4 z (by have := (blk_b hbl).1; omega))]
