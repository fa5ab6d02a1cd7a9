/-! THE REFERENCE: its constructor, the added words of the second hash -/
def filI : (Nat → Int32) → List (Nat × Int32) → (Nat → Int32)
  | f, [] => f
  | f, p :: r => filI (va_up f p.1 p.2) r
theorem row_set {L : List Int32} {i : Nat} {v : Int32} (h : i < L.length) : va_up (ks_row L) i v = ks_row (L.set i v) := by
  funext j
  unfold ks_row
  by_cases e : j = i
  · subst e
    rw [va_up_self, List.getD_eq_getElem?_getD, List.getElem?_set, if_pos rfl, if_pos h]
    rfl
  · rw [va_up_ne _ _ e, List.getD_eq_getElem?_getD, List.getD_eq_getElem?_getD, List.getElem?_set, if_neg (fun h => e h.symm)]
theorem filI_row : ∀ (r : List (Nat × Int32)) (L : List Int32), (∀ p ∈ r, p.1 < L.length) → filI (ks_row L) r = ks_row (r.foldl (fun L p => L.set p.1 p.2) L)
  | [], _, _ => rfl
  | p :: r, L, h => by
    show filI (va_up (ks_row L) p.1 p.2) r = ks_row (r.foldl (fun L p => L.set p.1 p.2) (L.set p.1 p.2))
    rw [row_set (h p List.mem_cons_self)]
    exact filI_row r _ (fun q hq => by rw [List.length_set]; exact h q (List.mem_cons_of_mem _ hq))
theorem row_z (n : Nat) : (fun _ => nI 0 : Nat → Int32) = ks_row (List.replicate n (nI 0)) := by
  funext j
  unfold ks_row
  rw [List.getD_eq_getElem?_getD, List.getElem?_replicate]
  split <;> rfl
def fl_A : List (Nat × Int32) := [(0, nI 0), (1, nI 1518500249), (2, nI 1859775393), (3, (-1894007588)), (4, (-1454113458)), (5, nI 1352829926), (6, nI 1548603684), (7, nI 1836072691), (8, nI 2053994217), (9, nI 0)]
set_option maxRecDepth 100000 in
set_option maxHeartbeats 800000 in
theorem l_inA {l : Launch} {G : ks_G} {d : Nat} {S : ks_S} (h9 : S.2.2 302 = some (kN 10 (fun _ => 0))) {P9 : Option Value → ks_S → Prop} (hk : ∀ S1 : ks_S, ks_up S S1 [302] → S1.2.2 302 = some (kI 10 (ks_row st_RIPE_WORDS)) → ks_X l G mX16_init d 2055 [(0, .ref 290)] [.ref 302, .ref 290] S1 P9) : ks_X l G mX16_init d 1995 [(0, .ref 290)] [.ref 302, .ref 290] S P9 := by
  have h8 : S.2.2 302 = some (kI 10 (fun _ => nI 0)) := h9
  refine ks_dup dX16_init_1995 rfl rfl ?_
  refine ks_iconst (x := nI 0) dX16_init_1996 (by decide) rfl ?_
  refine ks_iconst (x := nI 0) dX16_init_1997 (by decide) rfl ?_
  refine ks_iastN (i := 0) (by decide) h8 rfl (by decide) (by decide) dX16_init_1998 rfl ?_
  refine ks_dup dX16_init_1999 rfl rfl ?_
  refine ks_iconst (x := nI 1) dX16_init_2000 (by decide) rfl ?_
  refine ks_ldcw dX16_init_2001 kx_1778 rfl ?_
  refine ks_ti (y := nI 1518500249) rfl ?_
  refine ks_iastN (i := 1) (by decide) (ks_set_same _ _ _) rfl (by decide) (by decide) dX16_init_2004 rfl ?_
  refine ks_dup dX16_init_2005 rfl rfl ?_
  refine ks_iconst (x := nI 2) dX16_init_2006 (by decide) rfl ?_
  refine ks_ldcw dX16_init_2007 kx_1779 rfl ?_
  refine ks_ti (y := nI 1859775393) rfl ?_
  refine ks_iastN (i := 2) (by decide) (ks_set_same _ _ _) rfl (by decide) (by decide) dX16_init_2010 rfl ?_
  refine ks_dup dX16_init_2011 rfl rfl ?_
  refine ks_iconst (x := nI 3) dX16_init_2012 (by decide) rfl ?_
  refine ks_ldcw dX16_init_2013 kx_1780 rfl ?_
  refine ks_iastN (i := 3) (by decide) (ks_set_same _ _ _) rfl (by decide) (by decide) dX16_init_2016 rfl ?_
  refine ks_dup dX16_init_2017 rfl rfl ?_
  refine ks_iconst (x := nI 4) dX16_init_2018 (by decide) rfl ?_
  refine ks_ldcw dX16_init_2019 kx_1781 rfl ?_
  refine ks_iastN (i := 4) (by decide) (ks_set_same _ _ _) rfl (by decide) (by decide) dX16_init_2022 rfl ?_
  refine ks_dup dX16_init_2023 rfl rfl ?_
  refine ks_iconst (x := nI 5) dX16_init_2024 (by decide) rfl ?_
  refine ks_ldcw dX16_init_2025 kx_1782 rfl ?_
  refine ks_ti (y := nI 1352829926) rfl ?_
  refine ks_iastN (i := 5) (by decide) (ks_set_same _ _ _) rfl (by decide) (by decide) dX16_init_2028 rfl ?_
  refine ks_dup dX16_init_2029 rfl rfl ?_
  refine ks_bipush (x := nI 6) dX16_init_2030 (by decide) rfl ?_
  refine ks_ldcw dX16_init_2032 kx_1783 rfl ?_
  refine ks_ti (y := nI 1548603684) rfl ?_
  refine ks_iastN (i := 6) (by decide) (ks_set_same _ _ _) rfl (by decide) (by decide) dX16_init_2035 rfl ?_
  refine ks_dup dX16_init_2036 rfl rfl ?_
  refine ks_bipush (x := nI 7) dX16_init_2037 (by decide) rfl ?_
  refine ks_ldcw dX16_init_2039 kx_1784 rfl ?_
  refine ks_ti (y := nI 1836072691) rfl ?_
  refine ks_iastN (i := 7) (by decide) (ks_set_same _ _ _) rfl (by decide) (by decide) dX16_init_2042 rfl ?_
  refine ks_dup dX16_init_2043 rfl rfl ?_
  refine ks_bipush (x := nI 8) dX16_init_2044 (by decide) rfl ?_
  refine ks_ldcw dX16_init_2046 kx_1785 rfl ?_
  refine ks_ti (y := nI 2053994217) rfl ?_
  refine ks_iastN (i := 8) (by decide) (ks_set_same _ _ _) rfl (by decide) (by decide) dX16_init_2049 rfl ?_
  refine ks_dup dX16_init_2050 rfl rfl ?_
  refine ks_bipush (x := nI 9) dX16_init_2051 (by decide) rfl ?_
  refine ks_iconst (x := nI 0) dX16_init_2053 (by decide) rfl ?_
  refine ks_iastN (i := 9) (by decide) (ks_set_same _ _ _) rfl (by decide) (by decide) dX16_init_2054 rfl ?_
  refine ks_nm (fun T1 e9 => ?_)
  have u1 : ks_up S T1 [302] := by rw [e9]; exact ks_upL (ks_upL (ks_upL (ks_upL (ks_upL (ks_upL (ks_upL (ks_upL (ks_upL (ks_up_set _ _ (List.mem_singleton.mpr rfl)) (List.mem_singleton.mpr rfl)) (List.mem_singleton.mpr rfl)) (List.mem_singleton.mpr rfl)) (List.mem_singleton.mpr rfl)) (List.mem_singleton.mpr rfl)) (List.mem_singleton.mpr rfl)) (List.mem_singleton.mpr rfl)) (List.mem_singleton.mpr rfl)) (List.mem_singleton.mpr rfl)
  have f1 : T1.2.2 302 = some (kI 10 (filI (fun _ => nI 0) fl_A)) := by rw [e9]; exact ks_set_same _ _ _
  clear e9
  refine hk T1 u1 ?_
  rw [f1, row_z 10, filI_row fl_A _ (by decide +kernel), show fl_A.foldl (fun L p => L.set p.1 p.2) (List.replicate 10 (nI 0)) = st_RIPE_WORDS from by decide +kernel]
