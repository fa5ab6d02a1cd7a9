/-! HASHER: ripeBlock, ripe -/
def rp_w (g : Nat → Nat) (i : Nat) : Nat → Int32 := fun j => nI (ks_num g (i + 4 * j) 4)
def rp_fin (F : Nat → Int32) (a b : rp_T) : Nat → Int32 := va_up (va_up (va_up (va_up (va_up F 1 (F 2 + a.2.2.2.1 + b.2.2.2.2)) 2 (F 3 + a.2.2.2.2 + b.1)) 3 (F 4 + a.1 + b.2.1)) 4 (F 0 + a.2.1 + b.2.2.1)) 0 (F 1 + a.2.2.1 + b.2.2.2.1)
def rp_blk (F : Nat → Int32) (g : Nat → Nat) (i : Nat) : Nat → Int32 := rp_fin F (rp_rd 0 (rp_w g i) (rp_s F) 80) (rp_rd 1 (rp_w g i) (rp_s F) 80)
theorem rp_blk_congr {F F' : Nat → Int32} {g g' : Nat → Nat} {i i' : Nat} (hF : ∀ q, q < 5 → F q = F' q) (hg : ∀ j, j < 64 → g (i + j) = g' (i' + j)) : ∀ q, q < 5 → rp_blk F g i q = rp_blk F' g' i' q := by
  intro q hq
  unfold rp_blk
  have h0 := hF 0 (by decide)
  have h1 := hF 1 (by decide)
  have h2 := hF 2 (by decide)
  have h3 := hF 3 (by decide)
  have h4 := hF 4 (by decide)
  have e1 : rp_s F = rp_s F' := by
    unfold rp_s
    rw [h0, h1, h2, h3, h4]
  have e2 : ∀ j, j < 16 → rp_w g i j = rp_w g' i' j := by
    intro j hj
    unfold rp_w
    rw [ks_num_congr 4 (i + 4 * j) (i' + 4 * j) (fun k hk => by have := hg (4 * j + k) (by omega); rw [← Nat.add_assoc, ← Nat.add_assoc] at this; exact this)]
  rw [e1, rp_rd_congr (by decide) e2 80 (by decide), rp_rd_congr (by decide) e2 80 (by decide)]
  have h : q = 0 ∨ q = 1 ∨ q = 2 ∨ q = 3 ∨ q = 4 := by omega
  rcases h with rfl | rfl | rfl | rfl | rfl <;> simp [rp_fin, va_up, h0, h1, h2, h3, h4]
set_option maxRecDepth 100000 in
set_option maxHeartbeats 40000000 in
theorem l_ripeBlock {l : Launch} {G : ks_G} {d : Nat} {S : ks_S} {h st wo si fr N i : Nat} {F f fs : Nat → Int32} {g : Nat → Nat} {r3 r4 r5 : Value} (hh : S.2.2 h = some (.inr (9, [.ref st, .ref wo, .ref si, r3, r4, r5]))) (hs : S.2.2 st = some (kI 8 F)) (hw : S.2.2 wo = some (kI 64 f)) (hsi : S.2.2 si = some (kI 10 fs)) (hf : S.2.2 fr = some (kB N g)) (hg : kO g) (hi : i + 64 ≤ N) (hN : N < 2 ^ 30) (hK : ks_stOK S) (hsB : st < ks_B) (hwB : wo < ks_B) (hiB : si < ks_B) (n_st_wo : st ≠ wo) (n_st_si : st ≠ si) (n_wo_si : wo ≠ si) : ∀ k q, q + k = 16 → ks_X l G mX6_ripeBlock (d + 1) 2 [(3, .int (nI q)), (0, .ref h), (1, .ref fr), (2, .int (nI i))] [] (ks_set S wo (kI 64 (ks_upto (rp_w g i) f q))) (fun z S' => z = none ∧ ks_up S S' [wo, si, st] ∧ (∃ w2, S'.2.2 wo = some (kI 64 w2)) ∧ (∃ s2, S'.2.2 si = some (kI 10 s2)) ∧ S'.2.2 st = some (kI 8 (rp_blk F g i))) := by
  have n_h_wo : h ≠ wo := Ne.symm (ks_neO hw hh)
  have n_h_st : h ≠ st := Ne.symm (ks_neO hs hh)
  have n_h_si : h ≠ si := Ne.symm (ks_neO hsi hh)
  have n_fr_wo : fr ≠ wo := ks_neT hf hw (by decide)
  have n_si_st : si ≠ st := Ne.symm n_st_si
  have n_si_wo : si ≠ wo := Ne.symm n_wo_si
  have n_wo_st : wo ≠ st := Ne.symm n_st_wo
  intro k
  induction k with
  | zero =>
    intro q hq
    refine ks_iload_n dX6_ripeBlock_2 rfl rfl ?_
    refine ks_bipush (x := 16) dX6_ripeBlock_3 (by decide) rfl ?_
    refine ks_icmp_ge (tgt := 31) dX6_ripeBlock_5 (by decide) rfl (fun hc => ?_) (fun hc => ?_)
    · rw [show q = 16 by omega]
      have hw1 : ∀ j, j < 16 → ks_upto (rp_w g i) f 16 j = rp_w g i j := fun j hj => by unfold ks_upto; rw [if_pos hj]
      generalize ks_upto (rp_w g i) f 16 = W at hw1 ⊢
      have hu1 : ks_up S (ks_set S wo (kI 64 W)) [wo, si, st] := ks_up_set _ _ (by simp)
      have hK1 : ks_stOK (ks_set S wo (kI 64 W)) := hK.set hwB _
      refine ks_aload_n dX6_ripeBlock_31 rfl rfl ?_
      refine ks_iconst (x := 0) dX6_ripeBlock_32 (by decide) rfl ?_
      refine ks_callV (n := 1) (M' := mX6_ripeSide) (c_ripeSide (sd := 0) ((ks_set_ne _ _ n_h_wo).trans hh) ((ks_set_ne _ _ n_st_wo).trans hs) (ks_set_same _ _ _) ((ks_set_ne _ _ n_si_wo).trans hsi) hK1 hiB (Or.inl rfl)) ((ks_set_ne _ _ n_h_wo).trans hh) cl_X6 rfl kx_1233 kx_1235 kxp_20 kx_3 kx_1236 (by decide +kernel) rfl (by decide) (Nat.le_of_ble_eq_true rfl) rfl dX6_ripeBlock_33 rfl (fun r2 S2 h2 => ?_)
      obtain ⟨rfl, rfl⟩ := h2
      refine ks_aload_n dX6_ripeBlock_36 rfl rfl ?_
      refine ks_iconst (x := 1) dX6_ripeBlock_37 (by decide) rfl ?_
      refine ks_callV (n := 1) (M' := mX6_ripeSide) (c_ripeSide (sd := 1) ((ks_set_ne _ _ n_h_si).trans ((ks_set_ne _ _ n_h_wo).trans hh)) ((ks_set_ne _ _ n_st_si).trans ((ks_set_ne _ _ n_st_wo).trans hs)) ((ks_set_ne _ _ n_wo_si).trans (ks_set_same _ _ _)) (ks_set_same _ _ _) (hK1.set hiB _) hiB (Or.inr rfl)) ((ks_set_ne _ _ n_h_si).trans ((ks_set_ne _ _ n_h_wo).trans hh)) cl_X6 rfl kx_1233 kx_1235 kxp_20 kx_3 kx_1236 (by decide +kernel) rfl (by decide) (Nat.le_of_ble_eq_true rfl) rfl dX6_ripeBlock_38 rfl (fun r3 S3 h3 => ?_)
      obtain ⟨rfl, rfl⟩ := h3
      refine ks_tS (ks_set_set _ _ _ _) ?_
      refine ks_aload_n dX6_ripeBlock_41 rfl rfl ?_
      refine ks_getf (T := TX6) (kf := 0) kx_81 rfl in_X6 cl_X6 (by decide) ((ks_set_ne _ _ n_h_si).trans ((ks_set_ne _ _ n_h_wo).trans hh)) rfl dX6_ripeBlock_42 rfl ?_
      refine ks_iconst (x := 1) dX6_ripeBlock_45 (by decide) rfl ?_
      refine ks_ialdN ((ks_set_ne _ _ n_st_si).trans ((ks_set_ne _ _ n_st_wo).trans hs)) (i := 1) rfl (by decide) (by decide) dX6_ripeBlock_46 rfl ?_
      refine ks_aload_n dX6_ripeBlock_47 rfl rfl ?_
      refine ks_getf (T := TX6) (kf := 2) kx_83 rfl in_X6 cl_X6 (by decide) ((ks_set_ne _ _ n_h_si).trans ((ks_set_ne _ _ n_h_wo).trans hh)) rfl dX6_ripeBlock_48 rfl ?_
      refine ks_iconst (x := 2) dX6_ripeBlock_51 (by decide) rfl ?_
      refine ks_ialdN (ks_set_same _ _ _) (i := 2) rfl (by decide) (by decide) dX6_ripeBlock_52 rfl ?_
      refine ks_iadd dX6_ripeBlock_53 rfl ?_
      refine ks_aload_n dX6_ripeBlock_54 rfl rfl ?_
      refine ks_getf (T := TX6) (kf := 2) kx_83 rfl in_X6 cl_X6 (by decide) ((ks_set_ne _ _ n_h_si).trans ((ks_set_ne _ _ n_h_wo).trans hh)) rfl dX6_ripeBlock_55 rfl ?_
      refine ks_bipush (x := 8) dX6_ripeBlock_58 (by decide) rfl ?_
      refine ks_ialdN (ks_set_same _ _ _) (i := 8) rfl (by decide) (by decide) dX6_ripeBlock_60 rfl ?_
      refine ks_iadd dX6_ripeBlock_61 rfl ?_
      refine ks_istore_n dX6_ripeBlock_62 (by decide) rfl ?_
      refine ks_sub [(3, _), (0, _), (1, _), (2, _)] rfl ?_
      refine ks_aload_n dX6_ripeBlock_63 rfl rfl ?_
      refine ks_getf (T := TX6) (kf := 0) kx_81 rfl in_X6 cl_X6 (by decide) ((ks_set_ne _ _ n_h_si).trans ((ks_set_ne _ _ n_h_wo).trans hh)) rfl dX6_ripeBlock_64 rfl ?_
      refine ks_iconst (x := 1) dX6_ripeBlock_67 (by decide) rfl ?_
      refine ks_aload_n dX6_ripeBlock_68 rfl rfl ?_
      refine ks_getf (T := TX6) (kf := 0) kx_81 rfl in_X6 cl_X6 (by decide) ((ks_set_ne _ _ n_h_si).trans ((ks_set_ne _ _ n_h_wo).trans hh)) rfl dX6_ripeBlock_69 rfl ?_
      refine ks_iconst (x := 2) dX6_ripeBlock_72 (by decide) rfl ?_
      refine ks_ialdN ((ks_set_ne _ _ n_st_si).trans ((ks_set_ne _ _ n_st_wo).trans hs)) (i := 2) rfl (by decide) (by decide) dX6_ripeBlock_73 rfl ?_
      refine ks_aload_n dX6_ripeBlock_74 rfl rfl ?_
      refine ks_getf (T := TX6) (kf := 2) kx_83 rfl in_X6 cl_X6 (by decide) ((ks_set_ne _ _ n_h_si).trans ((ks_set_ne _ _ n_h_wo).trans hh)) rfl dX6_ripeBlock_75 rfl ?_
      refine ks_iconst (x := 3) dX6_ripeBlock_78 (by decide) rfl ?_
      refine ks_ialdN (ks_set_same _ _ _) (i := 3) rfl (by decide) (by decide) dX6_ripeBlock_79 rfl ?_
      refine ks_iadd dX6_ripeBlock_80 rfl ?_
      refine ks_aload_n dX6_ripeBlock_81 rfl rfl ?_
      refine ks_getf (T := TX6) (kf := 2) kx_83 rfl in_X6 cl_X6 (by decide) ((ks_set_ne _ _ n_h_si).trans ((ks_set_ne _ _ n_h_wo).trans hh)) rfl dX6_ripeBlock_82 rfl ?_
      refine ks_bipush (x := 9) dX6_ripeBlock_85 (by decide) rfl ?_
      refine ks_ialdN (ks_set_same _ _ _) (i := 9) rfl (by decide) (by decide) dX6_ripeBlock_87 rfl ?_
      refine ks_iadd dX6_ripeBlock_88 rfl ?_
      refine ks_iastN hsB ((ks_set_ne _ _ n_st_si).trans ((ks_set_ne _ _ n_st_wo).trans hs)) (i := 1) rfl (by decide) (by decide) dX6_ripeBlock_89 rfl ?_
      refine ks_aload_n dX6_ripeBlock_90 rfl rfl ?_
      refine ks_getf (T := TX6) (kf := 0) kx_81 rfl in_X6 cl_X6 (by decide) ((ks_set_ne _ _ n_h_st).trans ((ks_set_ne _ _ n_h_si).trans ((ks_set_ne _ _ n_h_wo).trans hh))) rfl dX6_ripeBlock_91 rfl ?_
      refine ks_iconst (x := 2) dX6_ripeBlock_94 (by decide) rfl ?_
      refine ks_aload_n dX6_ripeBlock_95 rfl rfl ?_
      refine ks_getf (T := TX6) (kf := 0) kx_81 rfl in_X6 cl_X6 (by decide) ((ks_set_ne _ _ n_h_st).trans ((ks_set_ne _ _ n_h_si).trans ((ks_set_ne _ _ n_h_wo).trans hh))) rfl dX6_ripeBlock_96 rfl ?_
      refine ks_iconst (x := 3) dX6_ripeBlock_99 (by decide) rfl ?_
      refine ks_ialdN (ks_set_same _ _ _) (i := 3) rfl (by decide) (by decide) dX6_ripeBlock_100 rfl ?_
      refine ks_aload_n dX6_ripeBlock_101 rfl rfl ?_
      refine ks_getf (T := TX6) (kf := 2) kx_83 rfl in_X6 cl_X6 (by decide) ((ks_set_ne _ _ n_h_st).trans ((ks_set_ne _ _ n_h_si).trans ((ks_set_ne _ _ n_h_wo).trans hh))) rfl dX6_ripeBlock_102 rfl ?_
      refine ks_iconst (x := 4) dX6_ripeBlock_105 (by decide) rfl ?_
      refine ks_ialdN ((ks_set_ne _ _ n_si_st).trans (ks_set_same _ _ _)) (i := 4) rfl (by decide) (by decide) dX6_ripeBlock_106 rfl ?_
      refine ks_iadd dX6_ripeBlock_107 rfl ?_
      refine ks_aload_n dX6_ripeBlock_108 rfl rfl ?_
      refine ks_getf (T := TX6) (kf := 2) kx_83 rfl in_X6 cl_X6 (by decide) ((ks_set_ne _ _ n_h_st).trans ((ks_set_ne _ _ n_h_si).trans ((ks_set_ne _ _ n_h_wo).trans hh))) rfl dX6_ripeBlock_109 rfl ?_
      refine ks_iconst (x := 5) dX6_ripeBlock_112 (by decide) rfl ?_
      refine ks_ialdN ((ks_set_ne _ _ n_si_st).trans (ks_set_same _ _ _)) (i := 5) rfl (by decide) (by decide) dX6_ripeBlock_113 rfl ?_
      refine ks_iadd dX6_ripeBlock_114 rfl ?_
      refine ks_iastN hsB (ks_set_same _ _ _) (i := 2) rfl (by decide) (by decide) dX6_ripeBlock_115 rfl ?_
      refine ks_aload_n dX6_ripeBlock_116 rfl rfl ?_
      refine ks_getf (T := TX6) (kf := 0) kx_81 rfl in_X6 cl_X6 (by decide) ((ks_set_ne _ _ n_h_st).trans ((ks_set_ne _ _ n_h_st).trans ((ks_set_ne _ _ n_h_si).trans ((ks_set_ne _ _ n_h_wo).trans hh)))) rfl dX6_ripeBlock_117 rfl ?_
      refine ks_iconst (x := 3) dX6_ripeBlock_120 (by decide) rfl ?_
      refine ks_aload_n dX6_ripeBlock_121 rfl rfl ?_
      refine ks_getf (T := TX6) (kf := 0) kx_81 rfl in_X6 cl_X6 (by decide) ((ks_set_ne _ _ n_h_st).trans ((ks_set_ne _ _ n_h_st).trans ((ks_set_ne _ _ n_h_si).trans ((ks_set_ne _ _ n_h_wo).trans hh)))) rfl dX6_ripeBlock_122 rfl ?_
      refine ks_iconst (x := 4) dX6_ripeBlock_125 (by decide) rfl ?_
      refine ks_ialdN (ks_set_same _ _ _) (i := 4) rfl (by decide) (by decide) dX6_ripeBlock_126 rfl ?_
      refine ks_aload_n dX6_ripeBlock_127 rfl rfl ?_
      refine ks_getf (T := TX6) (kf := 2) kx_83 rfl in_X6 cl_X6 (by decide) ((ks_set_ne _ _ n_h_st).trans ((ks_set_ne _ _ n_h_st).trans ((ks_set_ne _ _ n_h_si).trans ((ks_set_ne _ _ n_h_wo).trans hh)))) rfl dX6_ripeBlock_128 rfl ?_
      refine ks_iconst (x := 0) dX6_ripeBlock_131 (by decide) rfl ?_
      refine ks_ialdN ((ks_set_ne _ _ n_si_st).trans ((ks_set_ne _ _ n_si_st).trans (ks_set_same _ _ _))) (i := 0) rfl (by decide) (by decide) dX6_ripeBlock_132 rfl ?_
      refine ks_iadd dX6_ripeBlock_133 rfl ?_
      refine ks_aload_n dX6_ripeBlock_134 rfl rfl ?_
      refine ks_getf (T := TX6) (kf := 2) kx_83 rfl in_X6 cl_X6 (by decide) ((ks_set_ne _ _ n_h_st).trans ((ks_set_ne _ _ n_h_st).trans ((ks_set_ne _ _ n_h_si).trans ((ks_set_ne _ _ n_h_wo).trans hh)))) rfl dX6_ripeBlock_135 rfl ?_
      refine ks_bipush (x := 6) dX6_ripeBlock_138 (by decide) rfl ?_
      refine ks_ialdN ((ks_set_ne _ _ n_si_st).trans ((ks_set_ne _ _ n_si_st).trans (ks_set_same _ _ _))) (i := 6) rfl (by decide) (by decide) dX6_ripeBlock_140 rfl ?_
      refine ks_iadd dX6_ripeBlock_141 rfl ?_
      refine ks_iastN hsB (ks_set_same _ _ _) (i := 3) rfl (by decide) (by decide) dX6_ripeBlock_142 rfl ?_
      refine ks_aload_n dX6_ripeBlock_143 rfl rfl ?_
      refine ks_getf (T := TX6) (kf := 0) kx_81 rfl in_X6 cl_X6 (by decide) ((ks_set_ne _ _ n_h_st).trans ((ks_set_ne _ _ n_h_st).trans ((ks_set_ne _ _ n_h_st).trans ((ks_set_ne _ _ n_h_si).trans ((ks_set_ne _ _ n_h_wo).trans hh))))) rfl dX6_ripeBlock_144 rfl ?_
      refine ks_iconst (x := 4) dX6_ripeBlock_147 (by decide) rfl ?_
      refine ks_aload_n dX6_ripeBlock_148 rfl rfl ?_
      refine ks_getf (T := TX6) (kf := 0) kx_81 rfl in_X6 cl_X6 (by decide) ((ks_set_ne _ _ n_h_st).trans ((ks_set_ne _ _ n_h_st).trans ((ks_set_ne _ _ n_h_st).trans ((ks_set_ne _ _ n_h_si).trans ((ks_set_ne _ _ n_h_wo).trans hh))))) rfl dX6_ripeBlock_149 rfl ?_
      refine ks_iconst (x := 0) dX6_ripeBlock_152 (by decide) rfl ?_
      refine ks_ialdN (ks_set_same _ _ _) (i := 0) rfl (by decide) (by decide) dX6_ripeBlock_153 rfl ?_
      refine ks_aload_n dX6_ripeBlock_154 rfl rfl ?_
      refine ks_getf (T := TX6) (kf := 2) kx_83 rfl in_X6 cl_X6 (by decide) ((ks_set_ne _ _ n_h_st).trans ((ks_set_ne _ _ n_h_st).trans ((ks_set_ne _ _ n_h_st).trans ((ks_set_ne _ _ n_h_si).trans ((ks_set_ne _ _ n_h_wo).trans hh))))) rfl dX6_ripeBlock_155 rfl ?_
      refine ks_iconst (x := 1) dX6_ripeBlock_158 (by decide) rfl ?_
      refine ks_ialdN ((ks_set_ne _ _ n_si_st).trans ((ks_set_ne _ _ n_si_st).trans ((ks_set_ne _ _ n_si_st).trans (ks_set_same _ _ _)))) (i := 1) rfl (by decide) (by decide) dX6_ripeBlock_159 rfl ?_
      refine ks_iadd dX6_ripeBlock_160 rfl ?_
      refine ks_aload_n dX6_ripeBlock_161 rfl rfl ?_
      refine ks_getf (T := TX6) (kf := 2) kx_83 rfl in_X6 cl_X6 (by decide) ((ks_set_ne _ _ n_h_st).trans ((ks_set_ne _ _ n_h_st).trans ((ks_set_ne _ _ n_h_st).trans ((ks_set_ne _ _ n_h_si).trans ((ks_set_ne _ _ n_h_wo).trans hh))))) rfl dX6_ripeBlock_162 rfl ?_
      refine ks_bipush (x := 7) dX6_ripeBlock_165 (by decide) rfl ?_
      refine ks_ialdN ((ks_set_ne _ _ n_si_st).trans ((ks_set_ne _ _ n_si_st).trans ((ks_set_ne _ _ n_si_st).trans (ks_set_same _ _ _)))) (i := 7) rfl (by decide) (by decide) dX6_ripeBlock_167 rfl ?_
      refine ks_iadd dX6_ripeBlock_168 rfl ?_
      refine ks_iastN hsB (ks_set_same _ _ _) (i := 4) rfl (by decide) (by decide) dX6_ripeBlock_169 rfl ?_
      refine ks_aload_n dX6_ripeBlock_170 rfl rfl ?_
      refine ks_getf (T := TX6) (kf := 0) kx_81 rfl in_X6 cl_X6 (by decide) ((ks_set_ne _ _ n_h_st).trans ((ks_set_ne _ _ n_h_st).trans ((ks_set_ne _ _ n_h_st).trans ((ks_set_ne _ _ n_h_st).trans ((ks_set_ne _ _ n_h_si).trans ((ks_set_ne _ _ n_h_wo).trans hh)))))) rfl dX6_ripeBlock_171 rfl ?_
      refine ks_iconst (x := 0) dX6_ripeBlock_174 (by decide) rfl ?_
      refine ks_iload_n dX6_ripeBlock_175 rfl rfl ?_
      refine ks_iastN hsB (ks_set_same _ _ _) (i := 0) rfl (by decide) (by decide) dX6_ripeBlock_176 rfl ?_
      refine ks_ret rfl dX6_ripeBlock_177 ?_
      refine ⟨rfl, ?_⟩
      simp only [ks_set_set]
      refine ⟨(hu1.trans (ks_up_set _ _ (by simp))).trans (ks_up_set _ _ (by simp)), ⟨W, (ks_set_ne _ _ n_wo_st).trans ((ks_set_ne _ _ n_wo_si).trans (ks_set_same _ _ _))⟩, ⟨_, (ks_set_ne _ _ n_si_st).trans (ks_set_same _ _ _)⟩, (ks_set_same _ _ _).trans ?_⟩
      unfold rp_blk
      rw [← rp_rd_congr (sd := 0) (by decide) hw1 80 (by decide), ← rp_rd_congr (sd := 1) (by decide) hw1 80 (by decide)]
      rfl
    · exact absurd (nI_le (a := 16) (by omega) (by omega)) hc
  | succ k ih =>
    intro q hq
    refine ks_iload_n dX6_ripeBlock_2 rfl rfl ?_
    refine ks_bipush (x := 16) dX6_ripeBlock_3 (by decide) rfl ?_
    refine ks_icmp_ge (tgt := 31) dX6_ripeBlock_5 (by decide) rfl (fun hc => ?_) (fun hc => ?_)
    · exact absurd hc (nI_ge (b := 16) (by omega) (by decide))
    · refine ks_aload_n dX6_ripeBlock_8 rfl rfl ?_
      refine ks_getf (T := TX6) (kf := 1) kx_82 rfl in_X6 cl_X6 (by decide) ((ks_set_ne _ _ n_h_wo).trans hh) rfl dX6_ripeBlock_9 rfl ?_
      refine ks_iload_n dX6_ripeBlock_12 rfl rfl ?_
      refine ks_aload_n dX6_ripeBlock_13 rfl rfl ?_
      refine ks_iload_n dX6_ripeBlock_14 rfl rfl ?_
      refine ks_iconst (x := 4) dX6_ripeBlock_15 (by decide) rfl ?_
      refine ks_iload_n dX6_ripeBlock_16 rfl rfl ?_
      refine ks_imul dX6_ripeBlock_17 rfl ?_
      refine ks_iadd dX6_ripeBlock_18 rfl ?_
      refine ks_ti (y := nI (i + 4 * q)) (by rw [show (4 : Int32) = nI 4 from rfl, pk_mul, nI_add]) ?_
      refine ks_iconst (x := 4) dX6_ripeBlock_19 (by decide) rfl ?_
      refine ks_callS (n := 3) (M' := mX1_number) (c_Buffer_number (sz := 4) ((ks_set_ne _ _ n_fr_wo).trans hf) hg (by omega) (by omega) (by decide)) kx_1232 kx_998 kx_2 kx_999 (by decide +kernel) rfl (by decide) (Nat.le_of_ble_eq_true rfl) rfl dX6_ripeBlock_20 rfl (fun r1 S1 h1 => ?_)
      obtain ⟨rfl, rfl⟩ := h1
      refine ks_l2i dX6_ripeBlock_23 rfl ?_
      refine ks_ti (y := rp_w g i q) (lN_i _) ?_
      refine ks_iastN hwB (ks_set_same _ _ _) rfl (by omega) (by decide) dX6_ripeBlock_24 rfl ?_
      refine ks_iinc (y := nI (q + 1)) dX6_ripeBlock_25 rfl (ks_p1 q) (by decide) rfl ?_
      refine ks_goto (tgt := 2) dX6_ripeBlock_28 (by decide) ?_
      refine ks_tS (by rw [ks_set_set, ks_upto_s]) ?_
      exact ks_sub _ rfl (ih (q + 1) (by omega))
set_option maxRecDepth 100000 in
set_option maxHeartbeats 40000000 in
theorem c_ripeBlock {l : Launch} {G : ks_G} {d : Nat} {S : ks_S} {h st wo si fr N i : Nat} {F f fs : Nat → Int32} {g : Nat → Nat} {r3 r4 r5 : Value} (hh : S.2.2 h = some (.inr (9, [.ref st, .ref wo, .ref si, r3, r4, r5]))) (hs : S.2.2 st = some (kI 8 F)) (hw : S.2.2 wo = some (kI 64 f)) (hsi : S.2.2 si = some (kI 10 fs)) (hf : S.2.2 fr = some (kB N g)) (hg : kO g) (hi : i + 64 ≤ N) (hN : N < 2 ^ 30) (hK : ks_stOK S) (hsB : st < ks_B) (hwB : wo < ks_B) (hiB : si < ks_B) (n_st_wo : st ≠ wo) (n_st_si : st ≠ si) (n_wo_si : wo ≠ si) : ks_P l G yX6_ripeBlock mX6_ripeBlock (d + 1) [.ref h, .ref fr, .int (nI i)] S (fun z S' => z = none ∧ ks_up S S' [wo, si, st] ∧ (∃ w2, S'.2.2 wo = some (kI 64 w2)) ∧ (∃ s2, S'.2.2 si = some (kI 10 s2)) ∧ S'.2.2 st = some (kI 8 (rp_blk F g i))) := by
  refine ks_of (by decide) rfl rfl (Nat.le_of_ble_eq_true rfl) ?_
  show ks_X l G mX6_ripeBlock (d + 1) 0 [(0, .ref h), (1, .ref fr), (2, .int (nI i))] [] S _
  refine ks_iconst (x := 0) dX6_ripeBlock_0 (by decide) rfl ?_
  refine ks_istore_n dX6_ripeBlock_1 (by decide) rfl ?_
  refine ks_sub [(3, _), (0, _), (1, _), (2, _)] rfl ?_
  have h9 := l_ripeBlock (l := l) (G := G) (d := d) hh hs hw hsi hf hg hi hN hK hsB hwB hiB n_st_wo n_st_si n_wo_si 16 0 rfl
  rw [ks_upto_0, ks_set_id S hw] at h9
  exact ks_sub _ rfl h9
