/-! THE REFERENCE: root -/
abbrev LRt : List Nat := [291, 292, 293, 299, 305, 355, 356, 357]
abbrev LRp : List Nat := [291, 292, 293, 299, 305, 355, 356]
set_option maxRecDepth 100000 in
set_option maxHeartbeats 800000 in
theorem l_rtIds {l : Launch} {G : ks_G} {d : Nat} {S : ks_S} {V : Nat → Value} {P : Option Value → ks_S → Prop} {gd gs : Nat → Nat} {y c N : Nat} (hO : S.2.2 290 = some (rfE V)) (hs9 : S.2.2 y = some (kB N gs)) (kgs : kO gs) (hd9 : S.2.2 355 = some (kB 416 gd)) (kgd : kO gd) (hc : c ≤ 12) (hyN : 32 * c ≤ N) (hN : N < 2 ^ 16) (hy9 : y ≠ 355) (hk : ∀ S1 : ks_S, ks_up S S1 [355] → S1.2.2 355 = some (kB 416 (ks_pt (fun j => gs (j)) gd 0 (32 * c))) → kO (ks_pt (fun j => gs (j)) gd 0 (32 * c)) → ks_X l G mX16_root d 51 [(0, .ref 290), (1, .ref y), (2, .int (nI c))] [] S1 P) : ∀ (u i : Nat) (S1 : ks_S), i + u = (32 * c) → ks_up S S1 [355] → S1.2.2 355 = some (kB 416 (ks_pt (fun j => gs (j)) gd 0 i)) → ks_X l G mX16_root d 28 [(0, .ref 290), (1, .ref y), (2, .int (nI c)), (3, .int (nI i))] [] S1 P := by
  have kD : kO (fun j => gs (j)) := fun j => kgs _
  intro u
  induction u with
  | zero =>
    intro i S1 hi hu e1
    have o1 := hu.at hO (by simp only [List.mem_cons, List.not_mem_nil, or_false]; exact (by decide))
    have s1 := hu.at hs9 (by simp only [List.mem_cons, List.not_mem_nil, or_false]; exact (by omega))
    obtain rfl : i = (32 * c) := hi
    refine ks_iload_n dX16_root_28 rfl rfl ?_
    refine ks_bipush (x := nI 32) dX16_root_29 (by decide) rfl ?_
    refine ks_iload_n dX16_root_31 rfl rfl ?_
    refine ks_mulN dX16_root_32 rfl ?_
    refine ks_icmp_geN (tgt := 51) (by omega) (by omega) dX16_root_33 (by decide) rfl (fun h1 => ?_) (fun h1 => absurd h1 (by omega))
    refine ks_sub [(0, _), (1, _), (2, _)] rfl ?_
    exact hk S1 hu e1 (kO_pt kD kgd _ _)
  | succ u ih =>
    intro i S1 hi hu e1
    have o1 := hu.at hO (by simp only [List.mem_cons, List.not_mem_nil, or_false]; exact (by decide))
    have s1 := hu.at hs9 (by simp only [List.mem_cons, List.not_mem_nil, or_false]; exact (by omega))
    refine ks_iload_n dX16_root_28 rfl rfl ?_
    refine ks_bipush (x := nI 32) dX16_root_29 (by decide) rfl ?_
    refine ks_iload_n dX16_root_31 rfl rfl ?_
    refine ks_mulN dX16_root_32 rfl ?_
    refine ks_icmp_geN (tgt := 51) (by omega) (by omega) dX16_root_33 (by decide) rfl (fun h1 => absurd h1 (by omega)) (fun h1 => ?_)
    refine ks_aload_n dX16_root_36 rfl rfl ?_
    refine ks_getf (T := TX16) (kf := 58) kx_2426 rfl in_X16 cl_X16 (by decide) o1 rfl dX16_root_37 rfl ?_
    refine ks_iload_n dX16_root_40 rfl rfl ?_
    refine ks_aload_n dX16_root_41 rfl rfl ?_
    refine ks_iload_n dX16_root_42 rfl rfl ?_
    refine ks_baldB (i := i) s1 rfl (by omega) (by omega) dX16_root_43 rfl ?_
    refine ks_bastB (i := i) (c := gs i) e1 rfl (by omega) (by decide) (ks_by_b (kgs _)) dX16_root_44 rfl ?_
    refine ks_incN (c := 1) (e := i + 1) dX16_root_45 rfl (by decide) rfl (by decide) rfl ?_
    refine ks_sub [(3, _), (0, _), (1, _), (2, _)] rfl ?_
    refine ks_goto (tgt := 28) dX16_root_48 (by decide) ?_
    refine ks_sub [(0, _), (1, _), (2, _), (3, _)] rfl (ih (i + 1) _ (by omega) (hu.trans (ks_up_set _ _ (List.mem_singleton.mpr rfl))) ?_)
    rw [ks_set_same, ← ks_pt_s]
    rw [Nat.zero_add]
set_option maxRecDepth 100000 in
set_option maxHeartbeats 800000 in
theorem l_rtEnd {l : Launch} {G : ks_G} {d : Nat} {S : ks_S} {V : Nat → Value} {P : Option Value → ks_S → Prop} {gd gs : Nat → Nat} {y c n : Nat} (hO : S.2.2 290 = some (rfE V)) (hs9 : S.2.2 355 = some (kB 416 gs)) (kgs : kO gs) (hd9 : S.2.2 357 = some (kB 32 gd)) (kgd : kO gd) (hk : ∀ S1 : ks_S, ks_up S S1 [357] → S1.2.2 357 = some (kB 32 (ks_pt (fun j => gs (j)) gd 0 32)) → kO (ks_pt (fun j => gs (j)) gd 0 32) → ks_X l G mX16_root d 221 [(0, .ref 290), (1, .ref y), (2, .int (nI c)), (3, .int (nI n))] [] S1 P) : ∀ (u i : Nat) (S1 : ks_S), i + u = 32 → ks_up S S1 [357] → S1.2.2 357 = some (kB 32 (ks_pt (fun j => gs (j)) gd 0 i)) → ks_X l G mX16_root d 194 [(0, .ref 290), (1, .ref y), (2, .int (nI c)), (3, .int (nI n)), (4, .int (nI i))] [] S1 P := by
  have kD : kO (fun j => gs (j)) := fun j => kgs _
  intro u
  induction u with
  | zero =>
    intro i S1 hi hu e1
    have o1 := hu.at hO (by simp only [List.mem_cons, List.not_mem_nil, or_false]; exact (by decide))
    have s1 := hu.at hs9 (by simp only [List.mem_cons, List.not_mem_nil, or_false]; exact (by decide))
    obtain rfl : i = 32 := hi
    refine ks_iload dX16_root_194 rfl rfl ?_
    refine ks_bipush (x := nI 32) dX16_root_196 (by decide) rfl ?_
    refine ks_icmp_geN (tgt := 221) (by decide) (by decide) dX16_root_198 (by decide) rfl (fun h1 => ?_) (fun h1 => absurd h1 (by omega))
    refine ks_sub [(0, _), (1, _), (2, _), (3, _)] rfl ?_
    exact hk S1 hu e1 (kO_pt kD kgd _ _)
  | succ u ih =>
    intro i S1 hi hu e1
    have o1 := hu.at hO (by simp only [List.mem_cons, List.not_mem_nil, or_false]; exact (by decide))
    have s1 := hu.at hs9 (by simp only [List.mem_cons, List.not_mem_nil, or_false]; exact (by decide))
    refine ks_iload dX16_root_194 rfl rfl ?_
    refine ks_bipush (x := nI 32) dX16_root_196 (by decide) rfl ?_
    refine ks_icmp_geN (tgt := 221) (by omega) (by decide) dX16_root_198 (by decide) rfl (fun h1 => absurd h1 (by omega)) (fun h1 => ?_)
    refine ks_aload_n dX16_root_201 rfl rfl ?_
    refine ks_getf (T := TX16) (kf := 60) kx_2428 rfl in_X16 cl_X16 (by decide) o1 rfl dX16_root_202 rfl ?_
    refine ks_iload dX16_root_205 rfl rfl ?_
    refine ks_aload_n dX16_root_207 rfl rfl ?_
    refine ks_getf (T := TX16) (kf := 58) kx_2426 rfl in_X16 cl_X16 (by decide) o1 rfl dX16_root_208 rfl ?_
    refine ks_iload dX16_root_211 rfl rfl ?_
    refine ks_baldB (i := i) s1 rfl (by omega) (by decide) dX16_root_213 rfl ?_
    refine ks_bastB (i := i) (c := gs i) e1 rfl (by omega) (by decide) (ks_by_b (kgs _)) dX16_root_214 rfl ?_
    refine ks_incN (c := 1) (e := i + 1) dX16_root_215 rfl (by decide) rfl (by decide) rfl ?_
    refine ks_sub [(4, _), (0, _), (1, _), (2, _), (3, _)] rfl ?_
    refine ks_goto (tgt := 194) dX16_root_218 (by decide) ?_
    refine ks_sub [(0, _), (1, _), (2, _), (3, _), (4, _)] rfl (ih (i + 1) _ (by omega) (hu.trans (ks_up_set _ _ (List.mem_singleton.mpr rfl))) ?_)
    rw [ks_set_same, ← ks_pt_s]
    rw [Nat.zero_add]
set_option maxRecDepth 100000 in
set_option maxHeartbeats 800000 in
theorem l_rtDup {l : Launch} {G : ks_G} {d : Nat} {S : ks_S} {V : Nat → Value} {P : Option Value → ks_S → Prop} {gd : Nat → Nat} {y c n : Nat} (hO : S.2.2 290 = some (rfE V)) (hd9 : S.2.2 355 = some (kB 416 gd)) (kgd : kO gd) (hn1 : 1 ≤ n) (hn : n ≤ 12) (hk : ∀ S1 : ks_S, ks_up S S1 [355] → S1.2.2 355 = some (kB 416 (ks_pt (fun j => gd ((32 * n - 32) + j)) gd (32 * n) 32)) → kO (ks_pt (fun j => gd ((32 * n - 32) + j)) gd (32 * n) 32) → ks_X l G mX16_root d 108 [(0, .ref 290), (1, .ref y), (2, .int (nI c)), (3, .int (nI n))] [] S1 P) : ∀ (u i : Nat) (S1 : ks_S), i + u = 32 → ks_up S S1 [355] → S1.2.2 355 = some (kB 416 (ks_pt (fun j => gd ((32 * n - 32) + j)) gd (32 * n) i)) → ks_X l G mX16_root d 68 [(0, .ref 290), (1, .ref y), (2, .int (nI c)), (3, .int (nI n)), (4, .int (nI i))] [] S1 P := by
  have kD : kO (fun j => gd ((32 * n - 32) + j)) := fun j => kgd _
  intro u
  induction u with
  | zero =>
    intro i S1 hi hu e1
    have o1 := hu.at hO (by simp only [List.mem_cons, List.not_mem_nil, or_false]; exact (by decide))
    obtain rfl : i = 32 := hi
    refine ks_iload dX16_root_68 rfl rfl ?_
    refine ks_bipush (x := nI 32) dX16_root_70 (by decide) rfl ?_
    refine ks_icmp_geN (tgt := 108) (by decide) (by decide) dX16_root_72 (by decide) rfl (fun h1 => ?_) (fun h1 => absurd h1 (by omega))
    refine ks_sub [(0, _), (1, _), (2, _), (3, _)] rfl ?_
    exact hk S1 hu e1 (kO_pt kD kgd _ _)
  | succ u ih =>
    intro i S1 hi hu e1
    have o1 := hu.at hO (by simp only [List.mem_cons, List.not_mem_nil, or_false]; exact (by decide))
    refine ks_iload dX16_root_68 rfl rfl ?_
    refine ks_bipush (x := nI 32) dX16_root_70 (by decide) rfl ?_
    refine ks_icmp_geN (tgt := 108) (by omega) (by decide) dX16_root_72 (by decide) rfl (fun h1 => absurd h1 (by omega)) (fun h1 => ?_)
    refine ks_aload_n dX16_root_75 rfl rfl ?_
    refine ks_getf (T := TX16) (kf := 58) kx_2426 rfl in_X16 cl_X16 (by decide) o1 rfl dX16_root_76 rfl ?_
    refine ks_bipush (x := nI 32) dX16_root_79 (by decide) rfl ?_
    refine ks_iload_n dX16_root_81 rfl rfl ?_
    refine ks_mulN dX16_root_82 rfl ?_
    refine ks_iload dX16_root_83 rfl rfl ?_
    refine ks_addN dX16_root_85 rfl ?_
    refine ks_aload_n dX16_root_86 rfl rfl ?_
    refine ks_getf (T := TX16) (kf := 58) kx_2426 rfl in_X16 cl_X16 (by decide) o1 rfl dX16_root_87 rfl ?_
    refine ks_bipush (x := nI 32) dX16_root_90 (by decide) rfl ?_
    refine ks_iload_n dX16_root_92 rfl rfl ?_
    refine ks_mulN dX16_root_93 rfl ?_
    refine ks_bipush (x := nI 32) dX16_root_94 (by decide) rfl ?_
    refine ks_subN (by omega) dX16_root_96 rfl ?_
    refine ks_iload dX16_root_97 rfl rfl ?_
    refine ks_addN dX16_root_99 rfl ?_
    refine ks_baldB (i := (32 * n - 32) + i) e1 rfl (by omega) (by decide) dX16_root_100 rfl ?_
    refine ks_bastB (i := 32 * n + i) (c := (ks_pt (fun j => gd ((32 * n - 32) + j)) gd (32 * n) i) ((32 * n - 32) + i)) e1 rfl (by omega) (by decide) (ks_by_b ((kO_pt kD kgd _ _) _)) dX16_root_101 rfl ?_
    refine ks_incN (c := 1) (e := i + 1) dX16_root_102 rfl (by decide) rfl (by decide) rfl ?_
    refine ks_sub [(4, _), (0, _), (1, _), (2, _), (3, _)] rfl ?_
    refine ks_goto (tgt := 68) dX16_root_105 (by decide) ?_
    refine ks_sub [(0, _), (1, _), (2, _), (3, _), (4, _)] rfl (ih (i + 1) _ (by omega) (hu.trans (ks_up_set _ _ (List.mem_singleton.mpr rfl))) ?_)
    rw [ks_set_same, ← ks_pt_s]
    rw [show ks_pt (fun j => gd ((32 * n - 32) + j)) gd (32 * n) i ((32 * n - 32) + i) = gd ((32 * n - 32) + i) from if_neg (by omega)]
set_option maxRecDepth 100000 in
set_option maxHeartbeats 800000 in
theorem l_rtBoth {l : Launch} {G : ks_G} {d : Nat} {S : ks_S} {V : Nat → Value} {P : Option Value → ks_S → Prop} {gd gs : Nat → Nat} {y c n k : Nat} (hO : S.2.2 290 = some (rfE V)) (hs9 : S.2.2 355 = some (kB 416 gs)) (kgs : kO gs) (hd9 : S.2.2 356 = some (kB 64 gd)) (kgd : kO gd) (hk9 : 64 * k + 64 ≤ 416) (hk : ∀ S1 : ks_S, ks_up S S1 [356] → S1.2.2 356 = some (kB 64 (ks_pt (fun j => gs (64 * k + j)) gd 0 64)) → kO (ks_pt (fun j => gs (64 * k + j)) gd 0 64) → ks_X l G mX16_root d 158 [(0, .ref 290), (1, .ref y), (2, .int (nI c)), (3, .int (nI n)), (4, .int (nI k))] [] S1 P) : ∀ (u i : Nat) (S1 : ks_S), i + u = 64 → ks_up S S1 [356] → S1.2.2 356 = some (kB 64 (ks_pt (fun j => gs (64 * k + j)) gd 0 i)) → ks_X l G mX16_root d 125 [(0, .ref 290), (1, .ref y), (2, .int (nI c)), (3, .int (nI n)), (4, .int (nI k)), (5, .int (nI i))] [] S1 P := by
  have kD : kO (fun j => gs (64 * k + j)) := fun j => kgs _
  intro u
  induction u with
  | zero =>
    intro i S1 hi hu e1
    have o1 := hu.at hO (by simp only [List.mem_cons, List.not_mem_nil, or_false]; exact (by decide))
    have s1 := hu.at hs9 (by simp only [List.mem_cons, List.not_mem_nil, or_false]; exact (by decide))
    obtain rfl : i = 64 := hi
    refine ks_iload dX16_root_125 rfl rfl ?_
    refine ks_bipush (x := nI 64) dX16_root_127 (by decide) rfl ?_
    refine ks_icmp_geN (tgt := 158) (by decide) (by decide) dX16_root_129 (by decide) rfl (fun h1 => ?_) (fun h1 => absurd h1 (by omega))
    refine ks_sub [(0, _), (1, _), (2, _), (3, _), (4, _)] rfl ?_
    exact hk S1 hu e1 (kO_pt kD kgd _ _)
  | succ u ih =>
    intro i S1 hi hu e1
    have o1 := hu.at hO (by simp only [List.mem_cons, List.not_mem_nil, or_false]; exact (by decide))
    have s1 := hu.at hs9 (by simp only [List.mem_cons, List.not_mem_nil, or_false]; exact (by decide))
    refine ks_iload dX16_root_125 rfl rfl ?_
    refine ks_bipush (x := nI 64) dX16_root_127 (by decide) rfl ?_
    refine ks_icmp_geN (tgt := 158) (by omega) (by decide) dX16_root_129 (by decide) rfl (fun h1 => absurd h1 (by omega)) (fun h1 => ?_)
    refine ks_aload_n dX16_root_132 rfl rfl ?_
    refine ks_getf (T := TX16) (kf := 59) kx_2427 rfl in_X16 cl_X16 (by decide) o1 rfl dX16_root_133 rfl ?_
    refine ks_iload dX16_root_136 rfl rfl ?_
    refine ks_aload_n dX16_root_138 rfl rfl ?_
    refine ks_getf (T := TX16) (kf := 58) kx_2426 rfl in_X16 cl_X16 (by decide) o1 rfl dX16_root_139 rfl ?_
    refine ks_bipush (x := nI 64) dX16_root_142 (by decide) rfl ?_
    refine ks_iload dX16_root_144 rfl rfl ?_
    refine ks_mulN dX16_root_146 rfl ?_
    refine ks_iload dX16_root_147 rfl rfl ?_
    refine ks_addN dX16_root_149 rfl ?_
    refine ks_baldB (i := 64 * k + i) s1 rfl (by omega) (by decide) dX16_root_150 rfl ?_
    refine ks_bastB (i := i) (c := gs (64 * k + i)) e1 rfl (by omega) (by decide) (ks_by_b (kgs _)) dX16_root_151 rfl ?_
    refine ks_incN (c := 1) (e := i + 1) dX16_root_152 rfl (by decide) rfl (by decide) rfl ?_
    refine ks_sub [(5, _), (0, _), (1, _), (2, _), (3, _), (4, _)] rfl ?_
    refine ks_goto (tgt := 125) dX16_root_155 (by decide) ?_
    refine ks_sub [(0, _), (1, _), (2, _), (3, _), (4, _), (5, _)] rfl (ih (i + 1) _ (by omega) (hu.trans (ks_up_set _ _ (List.mem_singleton.mpr rfl))) ?_)
    rw [ks_set_same, ← ks_pt_s]
    rw [Nat.zero_add]
set_option maxRecDepth 100000 in
set_option maxHeartbeats 800000 in
theorem l_rtZero {l : Launch} {G : ks_G} {d : Nat} {S : ks_S} {V : Nat → Value} {P : Option Value → ks_S → Prop} {y c : Nat} (hO : S.2.2 290 = some (rfE V)) (hk : ∀ (S1 : ks_S) (g : Nat → Nat), ks_up S S1 [357] → S1.2.2 357 = some (kB 32 g) → kO g → (∀ j, j < 32 → g j = 0) → ks_X l G mX16_root d 21 [(0, .ref 290), (1, .ref y), (2, .int (nI c))] [] S1 P) : ∀ (u i : Nat) (S1 : ks_S) (g : Nat → Nat), i + u = 32 → ks_up S S1 [357] → S1.2.2 357 = some (kB 32 g) → kO g → (∀ j, j < i → g j = 0) → ks_X l G mX16_root d 2 [(0, .ref 290), (1, .ref y), (2, .int (nI c)), (3, .int (nI i))] [] S1 P := by
  intro u
  induction u with
  | zero =>
    intro i S1 g hi hu e1 kg hz
    have o1 := hu.at hO (by decide)
    obtain rfl : i = 32 := hi
    refine ks_iload_n dX16_root_2 rfl rfl ?_
    refine ks_bipush (x := nI 32) dX16_root_3 (by decide) rfl ?_
    refine ks_icmp_geN (tgt := 21) (by decide) (by decide) dX16_root_5 (by decide) rfl (fun _ => ?_) (fun h => absurd h (by decide))
    refine ks_sub [(0, _), (1, _), (2, _)] rfl ?_
    exact hk S1 g hu e1 kg hz
  | succ u ih =>
    intro i S1 g hi hu e1 kg hz
    have o1 := hu.at hO (by decide)
    refine ks_iload_n dX16_root_2 rfl rfl ?_
    refine ks_bipush (x := nI 32) dX16_root_3 (by decide) rfl ?_
    refine ks_icmp_geN (tgt := 21) (by omega) (by decide) dX16_root_5 (by decide) rfl (fun h1 => absurd h1 (by omega)) (fun h1 => ?_)
    refine ks_aload_n dX16_root_8 rfl rfl ?_
    refine ks_getf (T := TX16) (kf := 60) kx_2428 rfl in_X16 cl_X16 (by decide) o1 rfl dX16_root_9 rfl ?_
    refine ks_iload_n dX16_root_12 rfl rfl ?_
    refine ks_iconst (x := nI 0) dX16_root_13 (by decide) rfl ?_
    refine ks_bastB (i := i) (c := 0) e1 rfl (by omega) (by decide) (ks_by_nI _) dX16_root_14 rfl ?_
    refine ks_incN (c := 1) (e := i + 1) dX16_root_15 rfl (by decide) rfl (by decide) rfl ?_
    refine ks_sub [(3, _), (0, _), (1, _), (2, _)] rfl ?_
    refine ks_goto (tgt := 2) dX16_root_18 (by decide) ?_
    refine ks_sub [(0, _), (1, _), (2, _), (3, _)] rfl (ih (i + 1) _ _ (by omega) (hu.trans (ks_up_set _ _ (by decide))) (ks_set_same _ _ _) (kO_up kg (by decide)) (fun j hj => ?_))
    by_cases e : j = i
    · subst e; rw [va_up_self]
    · rw [va_up_ne _ _ e]; exact hz j (by omega)
set_option maxRecDepth 100000 in
set_option maxHeartbeats 800000 in
theorem l_rtPair {l : Launch} {G : ks_G} {d : Nat} {S : ks_S} {V : Nat → Value} {P : Option Value → ks_S → Prop} {y c n m : Nat} {f : Nat → Nat} (hO : S.2.2 290 = some (rfE V)) (hn : n = 2 * m) (hm : m ≤ 6) (hk : ∀ (S1 : ks_S) (gt gb : Nat → Nat), ks_up S S1 LRp → mhR S1 → (∃ gi, kO gi ∧ S1.2.2 305 = some (kB 32 gi)) → S1.2.2 355 = some (kB 416 gt) → kO gt → S1.2.2 356 = some (kB 64 gb) → kO gb → (∀ j, j < 32 * m → gt j = twice_ (fun x => f (64 * (j / 32) + x)) 64 (j % 32)) → ks_X l G mX16_root (d + 4) 184 [(0, .ref 290), (1, .ref y), (2, .int (nI c)), (3, .int (nI n))] [] S1 P) : ∀ (u k : Nat) (S1 : ks_S) (gt gb : Nat → Nat), k + u = m → ks_up S S1 LRp → mhR S1 → (∃ gi, kO gi ∧ S1.2.2 305 = some (kB 32 gi)) → S1.2.2 355 = some (kB 416 gt) → kO gt → S1.2.2 356 = some (kB 64 gb) → kO gb → (∀ j, j < 32 * k → gt j = twice_ (fun x => f (64 * (j / 32) + x)) 64 (j % 32)) → (∀ j, 64 * k ≤ j → j < 64 * m → gt j = f j) → ks_X l G mX16_root (d + 4) 114 [(0, .ref 290), (1, .ref y), (2, .int (nI c)), (3, .int (nI n)), (4, .int (nI k))] [] S1 P := by
  intro u
  induction u with
  | zero =>
    intro k S1 gt gb hi hu M1 i1 e1 k1 e2 k2 hd1 hd2
    have o1 := hu.at hO (by decide)
    obtain ⟨gi, ki, i1⟩ := i1
    refine ks_iload dX16_root_114 rfl rfl ?_
    refine ks_iload_n dX16_root_116 rfl rfl ?_
    refine ks_iconst (x := nI 2) dX16_root_117 (by decide) rfl ?_
    refine ks_divN (by omega) (by decide) (by decide) dX16_root_118 rfl ?_
    refine ks_icmp_geN (tgt := 184) (by omega) (by omega) dX16_root_119 (by decide) rfl (fun h1 => ?_) (fun h1 => absurd h1 (by omega))
    obtain rfl : k = m := hi
    refine ks_sub [(0, _), (1, _), (2, _), (3, _)] rfl ?_
    exact hk S1 gt gb hu M1 ⟨gi, ki, i1⟩ e1 k1 e2 k2 hd1
  | succ u ih =>
    intro k S1 gt gb hi hu M1 i1 e1 k1 e2 k2 hd1 hd2
    have o1 := hu.at hO (by decide)
    obtain ⟨gi, ki, i1⟩ := i1
    refine ks_iload dX16_root_114 rfl rfl ?_
    refine ks_iload_n dX16_root_116 rfl rfl ?_
    refine ks_iconst (x := nI 2) dX16_root_117 (by decide) rfl ?_
    refine ks_divN (by omega) (by decide) (by decide) dX16_root_118 rfl ?_
    refine ks_icmp_geN (tgt := 184) (by omega) (by omega) dX16_root_119 (by decide) rfl (fun h1 => absurd h1 (by omega)) (fun h1 => ?_)
    refine ks_iconst (x := nI 0) dX16_root_122 (by decide) rfl ?_
    refine ks_istore dX16_root_123 (by decide) rfl ?_
    refine ks_sub [(5, _), (0, _), (1, _), (2, _), (3, _), (4, _)] rfl ?_
    refine ks_sub [(0, _), (1, _), (2, _), (3, _), (4, _), (5, _)] rfl (l_rtBoth (d := d + 4) o1 e1 k1 e2 k2 (by omega) (fun S2 u2 b2 kb2 => ?_) 64 0 S1 rfl (ks_up.rf _ _) (by rw [ks_pt_0]; exact e2))
    have o2 := u2.at o1 (by decide)
    have t2 := u2.at e1 (by decide)
    have M2 := M1.up u2 (by decide)
    have i2 := u2.at i1 (by decide)
    refine ks_aload_n dX16_root_158 rfl rfl ?_
    refine ks_aload_n dX16_root_159 rfl rfl ?_
    refine ks_getf (T := TX16) (kf := 59) kx_2427 rfl in_X16 cl_X16 (by decide) o2 rfl dX16_root_160 rfl ?_
    refine ks_iconst (x := nI 0) dX16_root_163 (by decide) rfl ?_
    refine ks_bipush (x := nI 64) dX16_root_164 (by decide) rfl ?_
    refine ks_aload_n dX16_root_166 rfl rfl ?_
    refine ks_getf (T := TX16) (kf := 58) kx_2426 rfl in_X16 cl_X16 (by decide) o2 rfl dX16_root_167 rfl ?_
    refine ks_bipush (x := nI 32) dX16_root_170 (by decide) rfl ?_
    refine ks_iload dX16_root_172 rfl rfl ?_
    refine ks_mulN dX16_root_174 rfl ?_
    refine ks_callV (n := 5) (M' := mX16_again) (c_md_again (d := d) (i := 0) (n := 64) (oa := 32 * k) o2 M2 i2 ki b2 kb2 (by decide) (by decide) t2 k1 (by omega) (by decide) (by decide) (by decide)) o2 cl_X16 rfl kx_1988 kx_1990 kxp_61 kx_30 kx_1991 (by decide +kernel) rfl (by decide) (Nat.le_of_ble_eq_true rfl) rfl dX16_root_175 rfl (fun z3 T3 y3 => ?_)
    obtain ⟨rfl, u3, M3, ⟨g3, kg3, i3⟩, t3⟩ := y3
    have o3 := u3.at o2 (by decide)
    have b3 := u3.at b2 (by decide)
    refine ks_incN (c := 1) (e := k + 1) dX16_root_178 rfl (by decide) rfl (by decide) rfl ?_
    refine ks_sub [(4, _), (0, _), (1, _), (2, _), (3, _)] rfl ?_
    refine ks_goto (tgt := 114) dX16_root_181 (by decide) ?_
    refine ks_sub [(0, _), (1, _), (2, _), (3, _), (4, _)] rfl (ih (k + 1) T3 _ _ (by omega) ((hu.trans (u2.mono (by decide))).trans (u3.mono (by decide))) M3 ⟨g3, kg3, i3⟩ t3 (kO_pt (kO_twice _ _) k1 _ _) b3 kb2 (fun j hj => ?_) (fun j h1 h2 => ?_))
    · by_cases e : 32 * k ≤ j
      · rw [show ks_pt _ gt (32 * k) 32 j = _ from if_pos ⟨e, by omega⟩]
        rw [show j - 32 * k = j % 32 by omega]
        refine congrFun (twice_congr (fun x hx => ?_)) _
        show ks_pt (fun j => gt (64 * k + j)) gb 0 64 (0 + x) = _
        rw [ks_pt_in _ _ _ _ hx, hd2 _ (by omega) (by omega)]
        rw [show j / 32 = k by omega]
      · rw [show ks_pt _ gt (32 * k) 32 j = _ from if_neg (fun h => e h.1)]; exact hd1 j (by omega)
    · rw [show ks_pt _ gt (32 * k) 32 j = _ from if_neg (by omega)]; exact hd2 j (by omega) h2
set_option maxRecDepth 100000 in
set_option maxHeartbeats 1600000 in
theorem c_md_root {l : Launch} {G : ks_G} {d : Nat} {S : ks_S} {V : Nat → Value} {y c N : Nat} {gy gi gt gb gr : Nat → Nat} (hO : S.2.2 290 = some (rfE V)) (hM : mhR S) (h305 : S.2.2 305 = some (kB 32 gi)) (ki : kO gi) (hy : S.2.2 y = some (kB N gy)) (kgy : kO gy) (hc : c ≤ 12) (hyN : 32 * c ≤ N) (hN : N < 2 ^ 16) (hy9 : y ∉ LRt) (h355 : S.2.2 355 = some (kB 416 gt)) (kt : kO gt) (h356 : S.2.2 356 = some (kB 64 gb)) (kb9 : kO gb) (h357 : S.2.2 357 = some (kB 32 gr)) (kr : kO gr) : ks_P l G yX16_root mX16_root (d + 4) [.ref 290, .ref y, .int (nI c)] S (fun z S' => z = none ∧ ks_up S S' LRt ∧ mhR S' ∧ (∃ gi, kO gi ∧ S'.2.2 305 = some (kB 32 gi)) ∧ (∃ g, kO g ∧ S'.2.2 355 = some (kB 416 g)) ∧ (∃ g, kO g ∧ S'.2.2 356 = some (kB 64 g)) ∧ ∃ g, kO g ∧ S'.2.2 357 = some (kB 32 g) ∧ ∀ j, j < 32 → g j = root_ gy c j) := by
  have loop : ∀ (q n : Nat) (S1 : ks_S) (f gt gb gr : Nat → Nat), n ≤ 12 → 1 ≤ n → n ≤ q → ks_up S S1 LRt → mhR S1 → (∃ gi, kO gi ∧ S1.2.2 305 = some (kB 32 gi)) → S1.2.2 355 = some (kB 416 gt) → kO gt → S1.2.2 356 = some (kB 64 gb) → kO gb → S1.2.2 357 = some (kB 32 gr) → kO gr → (∀ j, j < 32 * n → gt j = f j) → (∀ j, j < 32 → rt_ q n f j = root_ gy c j) → ks_X l G mX16_root (d + 4) 53 [(0, .ref 290), (1, .ref y), (2, .int (nI c)), (3, .int (nI n))] [] S1 (fun z S' => z = none ∧ ks_up S S' LRt ∧ mhR S' ∧ (∃ gi, kO gi ∧ S'.2.2 305 = some (kB 32 gi)) ∧ (∃ g, kO g ∧ S'.2.2 355 = some (kB 416 g)) ∧ (∃ g, kO g ∧ S'.2.2 356 = some (kB 64 g)) ∧ ∃ g, kO g ∧ S'.2.2 357 = some (kB 32 g) ∧ ∀ j, j < 32 → g j = root_ gy c j) := by
    intro q
    induction q with
    | zero =>
      intro n S1 f gt gb gr h1 h2 h3
      omega
    | succ q ih =>
      intro n S1 f gt gb gr h1 h2 h3 hu M1 i1 e1 k1 e2 k2 e3 k3 hf hr
      have o1 := hu.at hO (by decide)
      obtain ⟨gi, ki, i1⟩ := i1
      refine ks_iload_n dX16_root_53 rfl rfl ?_
      refine ks_iconst (x := nI 1) dX16_root_54 (by decide) rfl ?_
      refine ks_icmp_leN (tgt := 191) (by omega) (by decide) dX16_root_55 (by decide) rfl (fun h4 => ?_) (fun h4 => ?_)
      · refine ks_iconst (x := nI 0) dX16_root_191 (by decide) rfl ?_
        refine ks_istore dX16_root_192 (by decide) rfl ?_
        refine ks_sub [(4, _), (0, _), (1, _), (2, _), (3, _)] rfl ?_
        refine ks_sub [(0, _), (1, _), (2, _), (3, _), (4, _)] rfl (l_rtEnd (d := d + 4) o1 e1 k1 e3 k3 (fun S2 u2 r2 kr2 => ?_) 32 0 S1 rfl (ks_up.rf _ _) (by rw [ks_pt_0]; exact e3))
        refine ks_ret rfl dX16_root_221 ?_
        have hu2 := hu.trans (u2.mono (L' := LRt) (by decide))
        refine ⟨rfl, hu2, M1.up u2 (by decide), ⟨gi, ki, u2.at i1 (by decide)⟩, ⟨gt, k1, u2.at e1 (by decide)⟩, ⟨gb, k2, u2.at e2 (by decide)⟩, _, kr2, r2, fun j hj => ?_⟩
        have e9 := ks_pt_in (fun j => gt j) gr 0 32 hj
        rw [Nat.zero_add] at e9
        rw [e9, hf j (by omega), ← hr j hj, rt_, if_pos (by omega)]
      · rw [rt_, if_neg (by omega)] at hr
        have lev : ∀ (m : Nat) (S2 : ks_S) (gt2 : Nat → Nat), (n + 1) / 2 = m → ks_up S1 S2 [355] → S2.2.2 355 = some (kB 416 gt2) → kO gt2 → (∀ j, j < 64 * m → gt2 j = rt_dup n f j) → ks_X l G mX16_root (d + 4) 111 [(0, .ref 290), (1, .ref y), (2, .int (nI c)), (3, .int (nI (2 * m)))] [] S2 (fun z S' => z = none ∧ ks_up S S' LRt ∧ mhR S' ∧ (∃ gi, kO gi ∧ S'.2.2 305 = some (kB 32 gi)) ∧ (∃ g, kO g ∧ S'.2.2 355 = some (kB 416 g)) ∧ (∃ g, kO g ∧ S'.2.2 356 = some (kB 64 g)) ∧ ∃ g, kO g ∧ S'.2.2 357 = some (kB 32 g) ∧ ∀ j, j < 32 → g j = root_ gy c j) := by
          intro m S2 gt2 hm u2 t2 kt2 hd2
          have o2 := u2.at o1 (by decide)
          refine ks_iconst (x := nI 0) dX16_root_111 (by decide) rfl ?_
          refine ks_istore dX16_root_112 (by decide) rfl ?_
          refine ks_sub [(4, _), (0, _), (1, _), (2, _), (3, _)] rfl ?_
          refine ks_sub [(0, _), (1, _), (2, _), (3, _), (4, _)] rfl (l_rtPair (d := d) (f := rt_dup n f) o2 rfl (by omega) (fun S3 gt3 gb3 u3 M3 i3 t3 kt3 b3 kb3 hd3 => ?_) m 0 S2 gt2 gb (by omega) (ks_up.rf _ _) (M1.up u2 (by decide)) ⟨gi, ki, u2.at i1 (by decide)⟩ t2 kt2 (u2.at e2 (by decide)) k2 (fun j hj => absurd hj (Nat.not_lt_zero _)) (fun j _ hj => hd2 j hj))
          refine ks_iload_n dX16_root_184 rfl rfl ?_
          refine ks_iconst (x := nI 2) dX16_root_185 (by decide) rfl ?_
          refine ks_divN (by omega) (by decide) (by decide) dX16_root_186 rfl ?_
          refine ks_istore_n dX16_root_187 (by decide) rfl ?_
          refine ks_sub [(3, _), (0, _), (1, _), (2, _)] rfl ?_
          refine ks_goto (tgt := 53) dX16_root_188 (by decide) ?_
          rw [hm] at hr
          exact ks_sub [(0, _), (1, _), (2, _), (3, .int (nI m))] (by rw [show 2 * m / 2 = m by omega]; rfl) (ih m S3 (rt_lv n f) gt3 gb3 gr (by omega) (by omega) (by omega) ((hu.trans (u2.mono (by decide))).trans (u3.mono (by decide))) M3 i3 t3 kt3 b3 kb3 (u3.at (u2.at e3 (by decide)) (by decide)) k3 (fun j hj => hd3 j hj) hr)
        refine ks_iload_n dX16_root_58 rfl rfl ?_
        refine ks_iconst (x := nI 2) dX16_root_59 (by decide) rfl ?_
        refine ks_remN (by omega) (by decide) (by decide) dX16_root_60 rfl ?_
        refine ks_iconst (x := nI 1) dX16_root_61 (by decide) rfl ?_
        refine ks_icmp_neN (tgt := 111) (by omega) (by decide) dX16_root_62 (by decide) rfl (fun h5 => ?_) (fun h5 => ?_)
        · have hm : 2 * ((n + 1) / 2) = n := by omega
          exact ks_sub [(0, _), (1, _), (2, _), (3, .int (nI (2 * ((n + 1) / 2))))] (by rw [hm]; rfl) (lev ((n + 1) / 2) S1 gt rfl (ks_up.rf _ _) e1 k1 (fun j hj => by rw [hf j (by omega)]; exact (if_pos (by omega)).symm))
        · refine ks_iconst (x := nI 0) dX16_root_65 (by decide) rfl ?_
          refine ks_istore dX16_root_66 (by decide) rfl ?_
          refine ks_sub [(4, _), (0, _), (1, _), (2, _), (3, _)] rfl ?_
          refine ks_sub [(0, _), (1, _), (2, _), (3, _), (4, _)] rfl (l_rtDup (d := d + 4) o1 e1 k1 h2 h1 (fun S2 u2 t2 kt2 => ?_) 32 0 S1 rfl (ks_up.rf _ _) (by rw [ks_pt_0]; exact e1))
          refine ks_incN (c := 1) (e := n + 1) dX16_root_108 rfl (by decide) rfl (by decide) rfl ?_
          refine ks_sub [(3, _), (0, _), (1, _), (2, _)] rfl ?_
          have hm : 2 * ((n + 1) / 2) = n + 1 := by omega
          refine ks_sub [(0, _), (1, _), (2, _), (3, .int (nI (2 * ((n + 1) / 2))))] (by rw [hm]; rfl) (lev ((n + 1) / 2) S2 _ rfl u2 t2 kt2 (fun j hj => ?_))
          unfold rt_dup
          by_cases e : j < 32 * n
          · rw [if_pos e, ← hf j e]; exact if_neg (by omega)
          · rw [if_neg e, ← hf (j - 32) (by omega)]
            refine (if_pos ⟨by omega, by omega⟩).trans ?_
            show gt (32 * n - 32 + (j - 32 * n)) = gt (j - 32)
            congr 1
            omega
  refine ks_of (by decide) rfl rfl (Nat.le_of_ble_eq_true rfl) ?_
  show ks_X l G mX16_root (d + 4) 0 [(0, .ref 290), (1, .ref y), (2, .int (nI c))] [] S _
  refine ks_iconst (x := nI 0) dX16_root_0 (by decide) rfl ?_
  refine ks_istore_n dX16_root_1 (by decide) rfl ?_
  refine ks_sub [(3, _), (0, _), (1, _), (2, _)] rfl ?_
  refine ks_sub [(0, _), (1, _), (2, _), (3, _)] rfl (l_rtZero (d := d + 4) hO (fun S1 g u1 e1 k1 z1 => ?_) 32 0 S gr rfl (ks_up.rf _ _) h357 kr (fun j hj => absurd hj (Nat.not_lt_zero _)))
  have un : ∀ x, x ∈ [357] → x ∈ LRt := by decide
  have o1 := u1.at hO (by decide)
  have M1 := hM.up u1 (by decide)
  have i1 := u1.at h305 (by decide)
  have t1 := u1.at h355 (by decide)
  have b1 := u1.at h356 (by decide)
  have y1 := u1.at hy (fun h => hy9 (un _ h))
  refine ks_iload_n dX16_root_21 rfl rfl ?_
  refine ks_if_neN (tgt := 26) (by omega) dX16_root_22 (by decide) rfl (fun h1 => ?_) (fun h1 => ?_)
  · refine ks_iconst (x := nI 0) dX16_root_26 (by decide) rfl ?_
    refine ks_istore_n dX16_root_27 (by decide) rfl ?_
    refine ks_sub [(3, _), (0, _), (1, _), (2, _)] rfl ?_
    refine ks_sub [(0, _), (1, _), (2, _), (3, _)] rfl (l_rtIds (d := d + 4) o1 y1 kgy t1 kt hc hyN hN (fun h => hy9 (by rw [h]; decide)) (fun S2 u2 t2 kt2 => ?_) (32 * c) 0 S1 (by omega) (ks_up.rf _ _) (by rw [ks_pt_0]; exact t1))
    refine ks_iload_n dX16_root_51 rfl rfl ?_
    refine ks_istore_n dX16_root_52 (by decide) rfl ?_
    refine ks_sub [(3, _), (0, _), (1, _), (2, _)] rfl ?_
    refine ks_sub [(0, _), (1, _), (2, _), (3, _)] rfl (loop c c S2 gy _ gb g hc (by omega) (Nat.le_refl _) ((u1.mono un).trans (u2.mono (by decide))) (M1.up u2 (by decide)) ⟨gi, ki, u2.at i1 (by decide)⟩ t2 kt2 (u2.at b1 (by decide)) kb9 (u2.at e1 (by decide)) k1 (fun j hj => ?_) (fun j hj => ?_))
    · have e9 := ks_pt_in (fun j => gy j) gt 0 (32 * c) hj
      rw [Nat.zero_add] at e9
      rw [e9]
    · unfold root_
      rw [if_neg h1]
  · refine ks_ret rfl dX16_root_25 ?_
    refine ⟨rfl, u1.mono un, M1, ⟨gi, ki, i1⟩, ⟨gt, kt, t1⟩, ⟨gb, kb9, b1⟩, g, k1, e1, fun j hj => ?_⟩
    rw [z1 j hj]
    unfold root_
    rw [if_pos h1]
